theorem q_N_init_0 : decode m_N_init.2.1 0 = .ok (.aload_n 0, 1) := by decide +kernel
theorem q_N_init_1 : decode m_N_init.2.1 1 = .ok (.invokespecial 1, 3) := by decide +kernel
theorem q_N_init_4 : decode m_N_init.2.1 4 = .ok (.aload_n 0, 1) := by decide +kernel
theorem q_N_init_5 : decode m_N_init.2.1 5 = .ok (.aload_n 1, 1) := by decide +kernel
theorem q_N_init_6 : decode m_N_init.2.1 6 = .ok (.putfield 7, 3) := by decide +kernel
theorem q_N_init_9 : decode m_N_init.2.1 9 = .ok (.return_, 1) := by decide +kernel
theorem q_N_byThings_0 : decode m_N_byThings.2.1 0 = .ok (.lconst 0, 1) := by decide +kernel
theorem q_N_byThings_1 : decode m_N_byThings.2.1 1 = .ok (.lstore_n 1, 1) := by decide +kernel
theorem q_N_byThings_2 : decode m_N_byThings.2.1 2 = .ok (.iconst 0, 1) := by decide +kernel
theorem q_N_byThings_3 : decode m_N_byThings.2.1 3 = .ok (.istore_n 3, 1) := by decide +kernel
theorem q_N_byThings_4 : decode m_N_byThings.2.1 4 = .ok (.iload_n 3, 1) := by decide +kernel
theorem q_N_byThings_5 : decode m_N_byThings.2.1 5 = .ok (.aload_n 0, 1) := by decide +kernel
theorem q_N_byThings_6 : decode m_N_byThings.2.1 6 = .ok (.getfield 7, 3) := by decide +kernel
theorem q_N_byThings_9 : decode m_N_byThings.2.1 9 = .ok (.getfield 13, 3) := by decide +kernel
theorem q_N_byThings_12 : decode m_N_byThings.2.1 12 = .ok (.if_icmp .ge 20, 3) := by decide +kernel
theorem q_N_byThings_15 : decode m_N_byThings.2.1 15 = .ok (.lload_n 1, 1) := by decide +kernel
theorem q_N_byThings_16 : decode m_N_byThings.2.1 16 = .ok (.aload_n 0, 1) := by decide +kernel
theorem q_N_byThings_17 : decode m_N_byThings.2.1 17 = .ok (.getfield 7, 3) := by decide +kernel
theorem q_N_byThings_20 : decode m_N_byThings.2.1 20 = .ok (.iload_n 3, 1) := by decide +kernel
theorem q_N_byThings_21 : decode m_N_byThings.2.1 21 = .ok (.invokevirtual 19, 3) := by decide +kernel
theorem q_N_byThings_24 : decode m_N_byThings.2.1 24 = .ok (.ladd, 1) := by decide +kernel
theorem q_N_byThings_25 : decode m_N_byThings.2.1 25 = .ok (.lstore_n 1, 1) := by decide +kernel
theorem q_N_byThings_26 : decode m_N_byThings.2.1 26 = .ok (.iinc 3 1, 3) := by decide +kernel
theorem q_N_byThings_29 : decode m_N_byThings.2.1 29 = .ok (.goto (-25), 3) := by decide +kernel
theorem q_N_byThings_32 : decode m_N_byThings.2.1 32 = .ok (.lload_n 1, 1) := by decide +kernel
theorem q_N_byThings_33 : decode m_N_byThings.2.1 33 = .ok (.lreturn, 1) := by decide +kernel
theorem q_N_byPrices_0 : decode m_N_byPrices.2.1 0 = .ok (.lload_n 1, 1) := by decide +kernel
theorem q_N_byPrices_1 : decode m_N_byPrices.2.1 1 = .ok (.lstore_n 3, 1) := by decide +kernel
theorem q_N_byPrices_2 : decode m_N_byPrices.2.1 2 = .ok (.iconst 0, 1) := by decide +kernel
theorem q_N_byPrices_3 : decode m_N_byPrices.2.1 3 = .ok (.istore 5, 2) := by decide +kernel
theorem q_N_byPrices_5 : decode m_N_byPrices.2.1 5 = .ok (.iload 5, 2) := by decide +kernel
theorem q_N_byPrices_7 : decode m_N_byPrices.2.1 7 = .ok (.aload_n 0, 1) := by decide +kernel
theorem q_N_byPrices_8 : decode m_N_byPrices.2.1 8 = .ok (.getfield 7, 3) := by decide +kernel
theorem q_N_byPrices_11 : decode m_N_byPrices.2.1 11 = .ok (.getfield 23, 3) := by decide +kernel
theorem q_N_byPrices_14 : decode m_N_byPrices.2.1 14 = .ok (.if_icmp .ge 22, 3) := by decide +kernel
theorem q_N_byPrices_17 : decode m_N_byPrices.2.1 17 = .ok (.lload_n 3, 1) := by decide +kernel
theorem q_N_byPrices_18 : decode m_N_byPrices.2.1 18 = .ok (.aload_n 0, 1) := by decide +kernel
theorem q_N_byPrices_19 : decode m_N_byPrices.2.1 19 = .ok (.getfield 7, 3) := by decide +kernel
theorem q_N_byPrices_22 : decode m_N_byPrices.2.1 22 = .ok (.getfield 26, 3) := by decide +kernel
theorem q_N_byPrices_25 : decode m_N_byPrices.2.1 25 = .ok (.iload 5, 2) := by decide +kernel
theorem q_N_byPrices_27 : decode m_N_byPrices.2.1 27 = .ok (.laload, 1) := by decide +kernel
theorem q_N_byPrices_28 : decode m_N_byPrices.2.1 28 = .ok (.ladd, 1) := by decide +kernel
theorem q_N_byPrices_29 : decode m_N_byPrices.2.1 29 = .ok (.lstore_n 3, 1) := by decide +kernel
theorem q_N_byPrices_30 : decode m_N_byPrices.2.1 30 = .ok (.iinc 5 1, 3) := by decide +kernel
theorem q_N_byPrices_33 : decode m_N_byPrices.2.1 33 = .ok (.goto (-28), 3) := by decide +kernel
theorem q_N_byPrices_36 : decode m_N_byPrices.2.1 36 = .ok (.aload_n 0, 1) := by decide +kernel
theorem q_N_byPrices_37 : decode m_N_byPrices.2.1 37 = .ok (.lconst 0, 1) := by decide +kernel
theorem q_N_byPrices_38 : decode m_N_byPrices.2.1 38 = .ok (.lconst 1, 1) := by decide +kernel
theorem q_N_byPrices_39 : decode m_N_byPrices.2.1 39 = .ok (.lload_n 3, 1) := by decide +kernel
theorem q_N_byPrices_40 : decode m_N_byPrices.2.1 40 = .ok (.invokevirtual 30, 3) := by decide +kernel
theorem q_N_byPrices_43 : decode m_N_byPrices.2.1 43 = .ok (.lstore 5, 2) := by decide +kernel
theorem q_N_byPrices_45 : decode m_N_byPrices.2.1 45 = .ok (.iconst 0, 1) := by decide +kernel
theorem q_N_byPrices_46 : decode m_N_byPrices.2.1 46 = .ok (.istore 7, 2) := by decide +kernel
theorem q_N_byPrices_48 : decode m_N_byPrices.2.1 48 = .ok (.iload 7, 2) := by decide +kernel
theorem q_N_byPrices_50 : decode m_N_byPrices.2.1 50 = .ok (.aload_n 0, 1) := by decide +kernel
theorem q_N_byPrices_51 : decode m_N_byPrices.2.1 51 = .ok (.getfield 7, 3) := by decide +kernel
theorem q_N_byPrices_54 : decode m_N_byPrices.2.1 54 = .ok (.getfield 34, 3) := by decide +kernel
theorem q_N_byPrices_57 : decode m_N_byPrices.2.1 57 = .ok (.if_icmp .ge 60, 3) := by decide +kernel
theorem q_N_byPrices_60 : decode m_N_byPrices.2.1 60 = .ok (.aload_n 0, 1) := by decide +kernel
theorem q_N_byPrices_61 : decode m_N_byPrices.2.1 61 = .ok (.getfield 7, 3) := by decide +kernel
theorem q_N_byPrices_64 : decode m_N_byPrices.2.1 64 = .ok (.getfield 37, 3) := by decide +kernel
theorem q_N_byPrices_67 : decode m_N_byPrices.2.1 67 = .ok (.iload 7, 2) := by decide +kernel
theorem q_N_byPrices_69 : decode m_N_byPrices.2.1 69 = .ok (.laload, 1) := by decide +kernel
theorem q_N_byPrices_70 : decode m_N_byPrices.2.1 70 = .ok (.lconst 0, 1) := by decide +kernel
theorem q_N_byPrices_71 : decode m_N_byPrices.2.1 71 = .ok (.lcmp, 1) := by decide +kernel
theorem q_N_byPrices_72 : decode m_N_byPrices.2.1 72 = .ok (.ifCond .le 39, 3) := by decide +kernel
theorem q_N_byPrices_75 : decode m_N_byPrices.2.1 75 = .ok (.aload_n 0, 1) := by decide +kernel
theorem q_N_byPrices_76 : decode m_N_byPrices.2.1 76 = .ok (.aload_n 0, 1) := by decide +kernel
theorem q_N_byPrices_77 : decode m_N_byPrices.2.1 77 = .ok (.getfield 7, 3) := by decide +kernel
theorem q_N_byPrices_80 : decode m_N_byPrices.2.1 80 = .ok (.getfield 40, 3) := by decide +kernel
theorem q_N_byPrices_83 : decode m_N_byPrices.2.1 83 = .ok (.iload 7, 2) := by decide +kernel
theorem q_N_byPrices_85 : decode m_N_byPrices.2.1 85 = .ok (.laload, 1) := by decide +kernel
theorem q_N_byPrices_86 : decode m_N_byPrices.2.1 86 = .ok (.aload_n 0, 1) := by decide +kernel
theorem q_N_byPrices_87 : decode m_N_byPrices.2.1 87 = .ok (.getfield 7, 3) := by decide +kernel
theorem q_N_byPrices_90 : decode m_N_byPrices.2.1 90 = .ok (.getfield 37, 3) := by decide +kernel
theorem q_N_byPrices_93 : decode m_N_byPrices.2.1 93 = .ok (.iload 7, 2) := by decide +kernel
theorem q_N_byPrices_95 : decode m_N_byPrices.2.1 95 = .ok (.laload, 1) := by decide +kernel
theorem q_N_byPrices_96 : decode m_N_byPrices.2.1 96 = .ok (.lload_n 3, 1) := by decide +kernel
theorem q_N_byPrices_97 : decode m_N_byPrices.2.1 97 = .ok (.invokevirtual 30, 3) := by decide +kernel
theorem q_N_byPrices_100 : decode m_N_byPrices.2.1 100 = .ok (.lstore 8, 2) := by decide +kernel
theorem q_N_byPrices_102 : decode m_N_byPrices.2.1 102 = .ok (.lload 5, 2) := by decide +kernel
theorem q_N_byPrices_104 : decode m_N_byPrices.2.1 104 = .ok (.lload 8, 2) := by decide +kernel
theorem q_N_byPrices_106 : decode m_N_byPrices.2.1 106 = .ok (.invokestatic 43, 3) := by decide +kernel
theorem q_N_byPrices_109 : decode m_N_byPrices.2.1 109 = .ok (.lstore 5, 2) := by decide +kernel
theorem q_N_byPrices_111 : decode m_N_byPrices.2.1 111 = .ok (.iinc 7 1, 3) := by decide +kernel
theorem q_N_byPrices_114 : decode m_N_byPrices.2.1 114 = .ok (.goto (-66), 3) := by decide +kernel
theorem q_N_byPrices_117 : decode m_N_byPrices.2.1 117 = .ok (.lload 5, 2) := by decide +kernel
theorem q_N_byPrices_119 : decode m_N_byPrices.2.1 119 = .ok (.lreturn, 1) := by decide +kernel
theorem q_N_byPrice_0 : decode m_N_byPrice.2.1 0 = .ok (.lload 5, 2) := by decide +kernel
theorem q_N_byPrice_2 : decode m_N_byPrice.2.1 2 = .ok (.lload_n 1, 1) := by decide +kernel
theorem q_N_byPrice_3 : decode m_N_byPrice.2.1 3 = .ok (.lmul, 1) := by decide +kernel
theorem q_N_byPrice_4 : decode m_N_byPrice.2.1 4 = .ok (.lstore 7, 2) := by decide +kernel
theorem q_N_byPrice_6 : decode m_N_byPrice.2.1 6 = .ok (.iconst 0, 1) := by decide +kernel
theorem q_N_byPrice_7 : decode m_N_byPrice.2.1 7 = .ok (.istore 9, 2) := by decide +kernel
theorem q_N_byPrice_9 : decode m_N_byPrice.2.1 9 = .ok (.iload 9, 2) := by decide +kernel
theorem q_N_byPrice_11 : decode m_N_byPrice.2.1 11 = .ok (.aload_n 0, 1) := by decide +kernel
theorem q_N_byPrice_12 : decode m_N_byPrice.2.1 12 = .ok (.getfield 7, 3) := by decide +kernel
theorem q_N_byPrice_15 : decode m_N_byPrice.2.1 15 = .ok (.getfield 13, 3) := by decide +kernel
theorem q_N_byPrice_18 : decode m_N_byPrice.2.1 18 = .ok (.if_icmp .ge 22, 3) := by decide +kernel
theorem q_N_byPrice_21 : decode m_N_byPrice.2.1 21 = .ok (.lload 7, 2) := by decide +kernel
theorem q_N_byPrice_23 : decode m_N_byPrice.2.1 23 = .ok (.aload_n 0, 1) := by decide +kernel
theorem q_N_byPrice_24 : decode m_N_byPrice.2.1 24 = .ok (.iload 9, 2) := by decide +kernel
theorem q_N_byPrice_26 : decode m_N_byPrice.2.1 26 = .ok (.lload_n 1, 1) := by decide +kernel
theorem q_N_byPrice_27 : decode m_N_byPrice.2.1 27 = .ok (.lload_n 3, 1) := by decide +kernel
theorem q_N_byPrice_28 : decode m_N_byPrice.2.1 28 = .ok (.invokevirtual 49, 3) := by decide +kernel
theorem q_N_byPrice_31 : decode m_N_byPrice.2.1 31 = .ok (.ladd, 1) := by decide +kernel
theorem q_N_byPrice_32 : decode m_N_byPrice.2.1 32 = .ok (.lstore 7, 2) := by decide +kernel
theorem q_N_byPrice_34 : decode m_N_byPrice.2.1 34 = .ok (.iinc 9 1, 3) := by decide +kernel
theorem q_N_byPrice_37 : decode m_N_byPrice.2.1 37 = .ok (.goto (-28), 3) := by decide +kernel
theorem q_N_byPrice_40 : decode m_N_byPrice.2.1 40 = .ok (.lload_n 3, 1) := by decide +kernel
theorem q_N_byPrice_41 : decode m_N_byPrice.2.1 41 = .ok (.lconst 0, 1) := by decide +kernel
theorem q_N_byPrice_42 : decode m_N_byPrice.2.1 42 = .ok (.lcmp, 1) := by decide +kernel
theorem q_N_byPrice_43 : decode m_N_byPrice.2.1 43 = .ok (.ifCond .le 10, 3) := by decide +kernel
theorem q_N_byPrice_46 : decode m_N_byPrice.2.1 46 = .ok (.lload 7, 2) := by decide +kernel
theorem q_N_byPrice_48 : decode m_N_byPrice.2.1 48 = .ok (.lload_n 3, 1) := by decide +kernel
theorem q_N_byPrice_49 : decode m_N_byPrice.2.1 49 = .ok (.ldiv, 1) := by decide +kernel
theorem q_N_byPrice_50 : decode m_N_byPrice.2.1 50 = .ok (.goto 4, 3) := by decide +kernel
theorem q_N_byPrice_53 : decode m_N_byPrice.2.1 53 = .ok (.lconst 0, 1) := by decide +kernel
theorem q_N_byPrice_54 : decode m_N_byPrice.2.1 54 = .ok (.lreturn, 1) := by decide +kernel
theorem q_N_mostPartsOf_0 : decode m_N_mostPartsOf.2.1 0 = .ok (.lconst 0, 1) := by decide +kernel
theorem q_N_mostPartsOf_1 : decode m_N_mostPartsOf.2.1 1 = .ok (.lstore 6, 2) := by decide +kernel
theorem q_N_mostPartsOf_3 : decode m_N_mostPartsOf.2.1 3 = .ok (.iconst 0, 1) := by decide +kernel
theorem q_N_mostPartsOf_4 : decode m_N_mostPartsOf.2.1 4 = .ok (.istore 8, 2) := by decide +kernel
theorem q_N_mostPartsOf_6 : decode m_N_mostPartsOf.2.1 6 = .ok (.iload 8, 2) := by decide +kernel
theorem q_N_mostPartsOf_8 : decode m_N_mostPartsOf.2.1 8 = .ok (.aload_n 0, 1) := by decide +kernel
theorem q_N_mostPartsOf_9 : decode m_N_mostPartsOf.2.1 9 = .ok (.getfield 7, 3) := by decide +kernel
theorem q_N_mostPartsOf_12 : decode m_N_mostPartsOf.2.1 12 = .ok (.getfield 34, 3) := by decide +kernel
theorem q_N_mostPartsOf_15 : decode m_N_mostPartsOf.2.1 15 = .ok (.if_icmp .ge 70, 3) := by decide +kernel
theorem q_N_mostPartsOf_18 : decode m_N_mostPartsOf.2.1 18 = .ok (.aload_n 0, 1) := by decide +kernel
theorem q_N_mostPartsOf_19 : decode m_N_mostPartsOf.2.1 19 = .ok (.getfield 7, 3) := by decide +kernel
theorem q_N_mostPartsOf_22 : decode m_N_mostPartsOf.2.1 22 = .ok (.getfield 53, 3) := by decide +kernel
theorem q_N_mostPartsOf_25 : decode m_N_mostPartsOf.2.1 25 = .ok (.iload 8, 2) := by decide +kernel
theorem q_N_mostPartsOf_27 : decode m_N_mostPartsOf.2.1 27 = .ok (.iaload, 1) := by decide +kernel
theorem q_N_mostPartsOf_28 : decode m_N_mostPartsOf.2.1 28 = .ok (.iload_n 1, 1) := by decide +kernel
theorem q_N_mostPartsOf_29 : decode m_N_mostPartsOf.2.1 29 = .ok (.if_icmp .ne 50, 3) := by decide +kernel
theorem q_N_mostPartsOf_32 : decode m_N_mostPartsOf.2.1 32 = .ok (.aload_n 0, 1) := by decide +kernel
theorem q_N_mostPartsOf_33 : decode m_N_mostPartsOf.2.1 33 = .ok (.getfield 7, 3) := by decide +kernel
theorem q_N_mostPartsOf_36 : decode m_N_mostPartsOf.2.1 36 = .ok (.getfield 37, 3) := by decide +kernel
theorem q_N_mostPartsOf_39 : decode m_N_mostPartsOf.2.1 39 = .ok (.iload 8, 2) := by decide +kernel
theorem q_N_mostPartsOf_41 : decode m_N_mostPartsOf.2.1 41 = .ok (.laload, 1) := by decide +kernel
theorem q_N_mostPartsOf_42 : decode m_N_mostPartsOf.2.1 42 = .ok (.aload_n 0, 1) := by decide +kernel
theorem q_N_mostPartsOf_43 : decode m_N_mostPartsOf.2.1 43 = .ok (.getfield 7, 3) := by decide +kernel
theorem q_N_mostPartsOf_46 : decode m_N_mostPartsOf.2.1 46 = .ok (.iload 8, 2) := by decide +kernel
theorem q_N_mostPartsOf_48 : decode m_N_mostPartsOf.2.1 48 = .ok (.invokevirtual 57, 3) := by decide +kernel
theorem q_N_mostPartsOf_51 : decode m_N_mostPartsOf.2.1 51 = .ok (.lsub, 1) := by decide +kernel
theorem q_N_mostPartsOf_52 : decode m_N_mostPartsOf.2.1 52 = .ok (.lstore 9, 2) := by decide +kernel
theorem q_N_mostPartsOf_54 : decode m_N_mostPartsOf.2.1 54 = .ok (.lload 6, 2) := by decide +kernel
theorem q_N_mostPartsOf_56 : decode m_N_mostPartsOf.2.1 56 = .ok (.aload_n 0, 1) := by decide +kernel
theorem q_N_mostPartsOf_57 : decode m_N_mostPartsOf.2.1 57 = .ok (.getfield 7, 3) := by decide +kernel
theorem q_N_mostPartsOf_60 : decode m_N_mostPartsOf.2.1 60 = .ok (.getfield 40, 3) := by decide +kernel
theorem q_N_mostPartsOf_63 : decode m_N_mostPartsOf.2.1 63 = .ok (.iload 8, 2) := by decide +kernel
theorem q_N_mostPartsOf_65 : decode m_N_mostPartsOf.2.1 65 = .ok (.laload, 1) := by decide +kernel
theorem q_N_mostPartsOf_66 : decode m_N_mostPartsOf.2.1 66 = .ok (.lload 4, 2) := by decide +kernel
theorem q_N_mostPartsOf_68 : decode m_N_mostPartsOf.2.1 68 = .ok (.lmul, 1) := by decide +kernel
theorem q_N_mostPartsOf_69 : decode m_N_mostPartsOf.2.1 69 = .ok (.lload_n 2, 1) := by decide +kernel
theorem q_N_mostPartsOf_70 : decode m_N_mostPartsOf.2.1 70 = .ok (.lload 9, 2) := by decide +kernel
theorem q_N_mostPartsOf_72 : decode m_N_mostPartsOf.2.1 72 = .ok (.lmul, 1) := by decide +kernel
theorem q_N_mostPartsOf_73 : decode m_N_mostPartsOf.2.1 73 = .ok (.lsub, 1) := by decide +kernel
theorem q_N_mostPartsOf_74 : decode m_N_mostPartsOf.2.1 74 = .ok (.invokestatic 60, 3) := by decide +kernel
theorem q_N_mostPartsOf_77 : decode m_N_mostPartsOf.2.1 77 = .ok (.lstore 6, 2) := by decide +kernel
theorem q_N_mostPartsOf_79 : decode m_N_mostPartsOf.2.1 79 = .ok (.iinc 8 1, 3) := by decide +kernel
theorem q_N_mostPartsOf_82 : decode m_N_mostPartsOf.2.1 82 = .ok (.goto (-76), 3) := by decide +kernel
theorem q_N_mostPartsOf_85 : decode m_N_mostPartsOf.2.1 85 = .ok (.lload 6, 2) := by decide +kernel
theorem q_N_mostPartsOf_87 : decode m_N_mostPartsOf.2.1 87 = .ok (.lreturn, 1) := by decide +kernel
theorem q_P_init_0 : decode m_P_init.2.1 0 = .ok (.aload_n 0, 1) := by decide +kernel
theorem q_P_init_1 : decode m_P_init.2.1 1 = .ok (.invokespecial 3, 3) := by decide +kernel
theorem q_P_init_4 : decode m_P_init.2.1 4 = .ok (.aload_n 0, 1) := by decide +kernel
theorem q_P_init_5 : decode m_P_init.2.1 5 = .ok (.bipush 14, 2) := by decide +kernel
theorem q_P_init_7 : decode m_P_init.2.1 7 = .ok (.newarray .int, 2) := by decide +kernel
theorem q_P_init_9 : decode m_P_init.2.1 9 = .ok (.putfield 9, 3) := by decide +kernel
theorem q_P_init_12 : decode m_P_init.2.1 12 = .ok (.aload_n 0, 1) := by decide +kernel
theorem q_P_init_13 : decode m_P_init.2.1 13 = .ok (.aload_n 1, 1) := by decide +kernel
theorem q_P_init_14 : decode m_P_init.2.1 14 = .ok (.putfield 15, 3) := by decide +kernel
theorem q_P_init_17 : decode m_P_init.2.1 17 = .ok (.return_, 1) := by decide +kernel
theorem q_P_planBy_0 : decode m_P_planBy.2.1 0 = .ok (.aload_n 0, 1) := by decide +kernel
theorem q_P_planBy_1 : decode m_P_planBy.2.1 1 = .ok (.getfield 15, 3) := by decide +kernel
theorem q_P_planBy_4 : decode m_P_planBy.2.1 4 = .ok (.getfield 19, 3) := by decide +kernel
theorem q_P_planBy_7 : decode m_P_planBy.2.1 7 = .ok (.istore_n 2, 1) := by decide +kernel
theorem q_P_planBy_8 : decode m_P_planBy.2.1 8 = .ok (.iload_n 1, 1) := by decide +kernel
theorem q_P_planBy_9 : decode m_P_planBy.2.1 9 = .ok (.ifCond .lt 16, 3) := by decide +kernel
theorem q_P_planBy_12 : decode m_P_planBy.2.1 12 = .ok (.iload_n 1, 1) := by decide +kernel
theorem q_P_planBy_13 : decode m_P_planBy.2.1 13 = .ok (.iconst 3, 1) := by decide +kernel
theorem q_P_planBy_14 : decode m_P_planBy.2.1 14 = .ok (.if_icmp .ge 11, 3) := by decide +kernel
theorem q_P_planBy_17 : decode m_P_planBy.2.1 17 = .ok (.aload_n 0, 1) := by decide +kernel
theorem q_P_planBy_18 : decode m_P_planBy.2.1 18 = .ok (.iload_n 2, 1) := by decide +kernel
theorem q_P_planBy_19 : decode m_P_planBy.2.1 19 = .ok (.invokevirtual 25, 3) := by decide +kernel
theorem q_P_planBy_22 : decode m_P_planBy.2.1 22 = .ok (.ifCond .ne 5, 3) := by decide +kernel
theorem q_P_planBy_25 : decode m_P_planBy.2.1 25 = .ok (.iconst (-1), 1) := by decide +kernel
theorem q_P_planBy_26 : decode m_P_planBy.2.1 26 = .ok (.ireturn, 1) := by decide +kernel
theorem q_P_planBy_27 : decode m_P_planBy.2.1 27 = .ok (.aload_n 0, 1) := by decide +kernel
theorem q_P_planBy_28 : decode m_P_planBy.2.1 28 = .ok (.iload_n 1, 1) := by decide +kernel
theorem q_P_planBy_29 : decode m_P_planBy.2.1 29 = .ok (.invokevirtual 29, 3) := by decide +kernel
theorem q_P_planBy_32 : decode m_P_planBy.2.1 32 = .ok (.iconst 0, 1) := by decide +kernel
theorem q_P_planBy_33 : decode m_P_planBy.2.1 33 = .ok (.istore_n 3, 1) := by decide +kernel
theorem q_P_planBy_34 : decode m_P_planBy.2.1 34 = .ok (.iload_n 3, 1) := by decide +kernel
theorem q_P_planBy_35 : decode m_P_planBy.2.1 35 = .ok (.aload_n 0, 1) := by decide +kernel
theorem q_P_planBy_36 : decode m_P_planBy.2.1 36 = .ok (.getfield 15, 3) := by decide +kernel
theorem q_P_planBy_39 : decode m_P_planBy.2.1 39 = .ok (.getfield 33, 3) := by decide +kernel
theorem q_P_planBy_42 : decode m_P_planBy.2.1 42 = .ok (.if_icmp .ge 33, 3) := by decide +kernel
theorem q_P_planBy_45 : decode m_P_planBy.2.1 45 = .ok (.iload_n 2, 1) := by decide +kernel
theorem q_P_planBy_46 : decode m_P_planBy.2.1 46 = .ok (.iconst 1, 1) := by decide +kernel
theorem q_P_planBy_47 : decode m_P_planBy.2.1 47 = .ok (.aload_n 0, 1) := by decide +kernel
theorem q_P_planBy_48 : decode m_P_planBy.2.1 48 = .ok (.getfield 9, 3) := by decide +kernel
theorem q_P_planBy_51 : decode m_P_planBy.2.1 51 = .ok (.iload_n 3, 1) := by decide +kernel
theorem q_P_planBy_52 : decode m_P_planBy.2.1 52 = .ok (.iaload, 1) := by decide +kernel
theorem q_P_planBy_53 : decode m_P_planBy.2.1 53 = .ok (.ishl, 1) := by decide +kernel
theorem q_P_planBy_54 : decode m_P_planBy.2.1 54 = .ok (.ior, 1) := by decide +kernel
theorem q_P_planBy_55 : decode m_P_planBy.2.1 55 = .ok (.istore 4, 2) := by decide +kernel
theorem q_P_planBy_57 : decode m_P_planBy.2.1 57 = .ok (.aload_n 0, 1) := by decide +kernel
theorem q_P_planBy_58 : decode m_P_planBy.2.1 58 = .ok (.iload 4, 2) := by decide +kernel
theorem q_P_planBy_60 : decode m_P_planBy.2.1 60 = .ok (.invokevirtual 25, 3) := by decide +kernel
theorem q_P_planBy_63 : decode m_P_planBy.2.1 63 = .ok (.ifCond .eq 6, 3) := by decide +kernel
theorem q_P_planBy_66 : decode m_P_planBy.2.1 66 = .ok (.iload 4, 2) := by decide +kernel
theorem q_P_planBy_68 : decode m_P_planBy.2.1 68 = .ok (.istore_n 2, 1) := by decide +kernel
theorem q_P_planBy_69 : decode m_P_planBy.2.1 69 = .ok (.iinc 3 1, 3) := by decide +kernel
theorem q_P_planBy_72 : decode m_P_planBy.2.1 72 = .ok (.goto (-38), 3) := by decide +kernel
theorem q_P_planBy_75 : decode m_P_planBy.2.1 75 = .ok (.iload_n 2, 1) := by decide +kernel
theorem q_P_planBy_76 : decode m_P_planBy.2.1 76 = .ok (.ireturn, 1) := by decide +kernel
theorem q_P_isPossible_0 : decode m_P_isPossible.2.1 0 = .ok (.aload_n 0, 1) := by decide +kernel
theorem q_P_isPossible_1 : decode m_P_isPossible.2.1 1 = .ok (.getfield 15, 3) := by decide +kernel
theorem q_P_isPossible_4 : decode m_P_isPossible.2.1 4 = .ok (.iload_n 1, 1) := by decide +kernel
theorem q_P_isPossible_5 : decode m_P_isPossible.2.1 5 = .ok (.invokevirtual 36, 3) := by decide +kernel
theorem q_P_isPossible_8 : decode m_P_isPossible.2.1 8 = .ok (.ifCond .eq 18, 3) := by decide +kernel
theorem q_P_isPossible_11 : decode m_P_isPossible.2.1 11 = .ok (.aload_n 0, 1) := by decide +kernel
theorem q_P_isPossible_12 : decode m_P_isPossible.2.1 12 = .ok (.getfield 15, 3) := by decide +kernel
theorem q_P_isPossible_15 : decode m_P_isPossible.2.1 15 = .ok (.iload_n 1, 1) := by decide +kernel
theorem q_P_isPossible_16 : decode m_P_isPossible.2.1 16 = .ok (.invokevirtual 39, 3) := by decide +kernel
theorem q_P_isPossible_19 : decode m_P_isPossible.2.1 19 = .ok (.ifCond .eq 7, 3) := by decide +kernel
theorem q_P_isPossible_22 : decode m_P_isPossible.2.1 22 = .ok (.iconst 1, 1) := by decide +kernel
theorem q_P_isPossible_23 : decode m_P_isPossible.2.1 23 = .ok (.goto 4, 3) := by decide +kernel
theorem q_P_isPossible_26 : decode m_P_isPossible.2.1 26 = .ok (.iconst 0, 1) := by decide +kernel
theorem q_P_isPossible_27 : decode m_P_isPossible.2.1 27 = .ok (.ireturn, 1) := by decide +kernel
theorem q_P_putInOrder_0 : decode m_P_putInOrder.2.1 0 = .ok (.iconst 0, 1) := by decide +kernel
theorem q_P_putInOrder_1 : decode m_P_putInOrder.2.1 1 = .ok (.istore_n 2, 1) := by decide +kernel
theorem q_P_putInOrder_2 : decode m_P_putInOrder.2.1 2 = .ok (.iload_n 2, 1) := by decide +kernel
theorem q_P_putInOrder_3 : decode m_P_putInOrder.2.1 3 = .ok (.aload_n 0, 1) := by decide +kernel
theorem q_P_putInOrder_4 : decode m_P_putInOrder.2.1 4 = .ok (.getfield 15, 3) := by decide +kernel
theorem q_P_putInOrder_7 : decode m_P_putInOrder.2.1 7 = .ok (.getfield 33, 3) := by decide +kernel
theorem q_P_putInOrder_10 : decode m_P_putInOrder.2.1 10 = .ok (.if_icmp .ge 53, 3) := by decide +kernel
theorem q_P_putInOrder_13 : decode m_P_putInOrder.2.1 13 = .ok (.iconst 0, 1) := by decide +kernel
theorem q_P_putInOrder_14 : decode m_P_putInOrder.2.1 14 = .ok (.istore_n 3, 1) := by decide +kernel
theorem q_P_putInOrder_15 : decode m_P_putInOrder.2.1 15 = .ok (.iconst 0, 1) := by decide +kernel
theorem q_P_putInOrder_16 : decode m_P_putInOrder.2.1 16 = .ok (.istore 4, 2) := by decide +kernel
theorem q_P_putInOrder_18 : decode m_P_putInOrder.2.1 18 = .ok (.iload 4, 2) := by decide +kernel
theorem q_P_putInOrder_20 : decode m_P_putInOrder.2.1 20 = .ok (.aload_n 0, 1) := by decide +kernel
theorem q_P_putInOrder_21 : decode m_P_putInOrder.2.1 21 = .ok (.getfield 15, 3) := by decide +kernel
theorem q_P_putInOrder_24 : decode m_P_putInOrder.2.1 24 = .ok (.getfield 33, 3) := by decide +kernel
theorem q_P_putInOrder_27 : decode m_P_putInOrder.2.1 27 = .ok (.if_icmp .ge 23, 3) := by decide +kernel
theorem q_P_putInOrder_30 : decode m_P_putInOrder.2.1 30 = .ok (.aload_n 0, 1) := by decide +kernel
theorem q_P_putInOrder_31 : decode m_P_putInOrder.2.1 31 = .ok (.iload_n 1, 1) := by decide +kernel
theorem q_P_putInOrder_32 : decode m_P_putInOrder.2.1 32 = .ok (.iload 4, 2) := by decide +kernel
theorem q_P_putInOrder_34 : decode m_P_putInOrder.2.1 34 = .ok (.iload_n 2, 1) := by decide +kernel
theorem q_P_putInOrder_35 : decode m_P_putInOrder.2.1 35 = .ok (.invokevirtual 42, 3) := by decide +kernel
theorem q_P_putInOrder_38 : decode m_P_putInOrder.2.1 38 = .ok (.ifCond .eq 6, 3) := by decide +kernel
theorem q_P_putInOrder_41 : decode m_P_putInOrder.2.1 41 = .ok (.iinc 3 1, 3) := by decide +kernel
theorem q_P_putInOrder_44 : decode m_P_putInOrder.2.1 44 = .ok (.iinc 4 1, 3) := by decide +kernel
theorem q_P_putInOrder_47 : decode m_P_putInOrder.2.1 47 = .ok (.goto (-29), 3) := by decide +kernel
theorem q_P_putInOrder_50 : decode m_P_putInOrder.2.1 50 = .ok (.aload_n 0, 1) := by decide +kernel
theorem q_P_putInOrder_51 : decode m_P_putInOrder.2.1 51 = .ok (.getfield 9, 3) := by decide +kernel
theorem q_P_putInOrder_54 : decode m_P_putInOrder.2.1 54 = .ok (.iload_n 3, 1) := by decide +kernel
theorem q_P_putInOrder_55 : decode m_P_putInOrder.2.1 55 = .ok (.iload_n 2, 1) := by decide +kernel
theorem q_P_putInOrder_56 : decode m_P_putInOrder.2.1 56 = .ok (.iastore, 1) := by decide +kernel
theorem q_P_putInOrder_57 : decode m_P_putInOrder.2.1 57 = .ok (.iinc 2 1, 3) := by decide +kernel
theorem q_P_putInOrder_60 : decode m_P_putInOrder.2.1 60 = .ok (.goto (-58), 3) := by decide +kernel
theorem q_P_putInOrder_63 : decode m_P_putInOrder.2.1 63 = .ok (.return_, 1) := by decide +kernel
theorem q_P_goesBefore_0 : decode m_P_goesBefore.2.1 0 = .ok (.iload_n 1, 1) := by decide +kernel
theorem q_P_goesBefore_1 : decode m_P_goesBefore.2.1 1 = .ok (.iconst 1, 1) := by decide +kernel
theorem q_P_goesBefore_2 : decode m_P_goesBefore.2.1 2 = .ok (.if_icmp .ne 12, 3) := by decide +kernel
theorem q_P_goesBefore_5 : decode m_P_goesBefore.2.1 5 = .ok (.aload_n 0, 1) := by decide +kernel
theorem q_P_goesBefore_6 : decode m_P_goesBefore.2.1 6 = .ok (.iload_n 2, 1) := by decide +kernel
theorem q_P_goesBefore_7 : decode m_P_goesBefore.2.1 7 = .ok (.iload_n 3, 1) := by decide +kernel
theorem q_P_goesBefore_8 : decode m_P_goesBefore.2.1 8 = .ok (.invokevirtual 46, 3) := by decide +kernel
theorem q_P_goesBefore_11 : decode m_P_goesBefore.2.1 11 = .ok (.goto 22, 3) := by decide +kernel
theorem q_P_goesBefore_14 : decode m_P_goesBefore.2.1 14 = .ok (.aload_n 0, 1) := by decide +kernel
theorem q_P_goesBefore_15 : decode m_P_goesBefore.2.1 15 = .ok (.getfield 15, 3) := by decide +kernel
theorem q_P_goesBefore_18 : decode m_P_goesBefore.2.1 18 = .ok (.getfield 50, 3) := by decide +kernel
theorem q_P_goesBefore_21 : decode m_P_goesBefore.2.1 21 = .ok (.iload_n 2, 1) := by decide +kernel
theorem q_P_goesBefore_22 : decode m_P_goesBefore.2.1 22 = .ok (.laload, 1) := by decide +kernel
theorem q_P_goesBefore_23 : decode m_P_goesBefore.2.1 23 = .ok (.aload_n 0, 1) := by decide +kernel
theorem q_P_goesBefore_24 : decode m_P_goesBefore.2.1 24 = .ok (.getfield 15, 3) := by decide +kernel
theorem q_P_goesBefore_27 : decode m_P_goesBefore.2.1 27 = .ok (.getfield 50, 3) := by decide +kernel
theorem q_P_goesBefore_30 : decode m_P_goesBefore.2.1 30 = .ok (.iload_n 3, 1) := by decide +kernel
theorem q_P_goesBefore_31 : decode m_P_goesBefore.2.1 31 = .ok (.laload, 1) := by decide +kernel
theorem q_P_goesBefore_32 : decode m_P_goesBefore.2.1 32 = .ok (.lsub, 1) := by decide +kernel
theorem q_P_goesBefore_33 : decode m_P_goesBefore.2.1 33 = .ok (.lstore 4, 2) := by decide +kernel
theorem q_P_goesBefore_35 : decode m_P_goesBefore.2.1 35 = .ok (.iload_n 1, 1) := by decide +kernel
theorem q_P_goesBefore_36 : decode m_P_goesBefore.2.1 36 = .ok (.iconst 2, 1) := by decide +kernel
theorem q_P_goesBefore_37 : decode m_P_goesBefore.2.1 37 = .ok (.if_icmp .ne 46, 3) := by decide +kernel
theorem q_P_goesBefore_40 : decode m_P_goesBefore.2.1 40 = .ok (.aload_n 0, 1) := by decide +kernel
theorem q_P_goesBefore_41 : decode m_P_goesBefore.2.1 41 = .ok (.getfield 15, 3) := by decide +kernel
theorem q_P_goesBefore_44 : decode m_P_goesBefore.2.1 44 = .ok (.getfield 54, 3) := by decide +kernel
theorem q_P_goesBefore_47 : decode m_P_goesBefore.2.1 47 = .ok (.iload_n 2, 1) := by decide +kernel
theorem q_P_goesBefore_48 : decode m_P_goesBefore.2.1 48 = .ok (.iaload, 1) := by decide +kernel
theorem q_P_goesBefore_49 : decode m_P_goesBefore.2.1 49 = .ok (.aload_n 0, 1) := by decide +kernel
theorem q_P_goesBefore_50 : decode m_P_goesBefore.2.1 50 = .ok (.getfield 15, 3) := by decide +kernel
theorem q_P_goesBefore_53 : decode m_P_goesBefore.2.1 53 = .ok (.getfield 54, 3) := by decide +kernel
theorem q_P_goesBefore_56 : decode m_P_goesBefore.2.1 56 = .ok (.iload_n 3, 1) := by decide +kernel
theorem q_P_goesBefore_57 : decode m_P_goesBefore.2.1 57 = .ok (.iaload, 1) := by decide +kernel
theorem q_P_goesBefore_58 : decode m_P_goesBefore.2.1 58 = .ok (.if_icmp .eq 25, 3) := by decide +kernel
theorem q_P_goesBefore_61 : decode m_P_goesBefore.2.1 61 = .ok (.aload_n 0, 1) := by decide +kernel
theorem q_P_goesBefore_62 : decode m_P_goesBefore.2.1 62 = .ok (.getfield 15, 3) := by decide +kernel
theorem q_P_goesBefore_65 : decode m_P_goesBefore.2.1 65 = .ok (.getfield 54, 3) := by decide +kernel
theorem q_P_goesBefore_68 : decode m_P_goesBefore.2.1 68 = .ok (.iload_n 3, 1) := by decide +kernel
theorem q_P_goesBefore_69 : decode m_P_goesBefore.2.1 69 = .ok (.iaload, 1) := by decide +kernel
theorem q_P_goesBefore_70 : decode m_P_goesBefore.2.1 70 = .ok (.aload_n 0, 1) := by decide +kernel
theorem q_P_goesBefore_71 : decode m_P_goesBefore.2.1 71 = .ok (.getfield 15, 3) := by decide +kernel
theorem q_P_goesBefore_74 : decode m_P_goesBefore.2.1 74 = .ok (.getfield 54, 3) := by decide +kernel
theorem q_P_goesBefore_77 : decode m_P_goesBefore.2.1 77 = .ok (.iload_n 2, 1) := by decide +kernel
theorem q_P_goesBefore_78 : decode m_P_goesBefore.2.1 78 = .ok (.iaload, 1) := by decide +kernel
theorem q_P_goesBefore_79 : decode m_P_goesBefore.2.1 79 = .ok (.isub, 1) := by decide +kernel
theorem q_P_goesBefore_80 : decode m_P_goesBefore.2.1 80 = .ok (.i2l, 1) := by decide +kernel
theorem q_P_goesBefore_81 : decode m_P_goesBefore.2.1 81 = .ok (.lstore 4, 2) := by decide +kernel
theorem q_P_goesBefore_83 : decode m_P_goesBefore.2.1 83 = .ok (.lload 4, 2) := by decide +kernel
theorem q_P_goesBefore_85 : decode m_P_goesBefore.2.1 85 = .ok (.lconst 0, 1) := by decide +kernel
theorem q_P_goesBefore_86 : decode m_P_goesBefore.2.1 86 = .ok (.lcmp, 1) := by decide +kernel
theorem q_P_goesBefore_87 : decode m_P_goesBefore.2.1 87 = .ok (.ifCond .eq 18, 3) := by decide +kernel
theorem q_P_goesBefore_90 : decode m_P_goesBefore.2.1 90 = .ok (.lload 4, 2) := by decide +kernel
theorem q_P_goesBefore_92 : decode m_P_goesBefore.2.1 92 = .ok (.lconst 0, 1) := by decide +kernel
theorem q_P_goesBefore_93 : decode m_P_goesBefore.2.1 93 = .ok (.lcmp, 1) := by decide +kernel
theorem q_P_goesBefore_94 : decode m_P_goesBefore.2.1 94 = .ok (.ifCond .le 7, 3) := by decide +kernel
theorem q_P_goesBefore_97 : decode m_P_goesBefore.2.1 97 = .ok (.iconst 1, 1) := by decide +kernel
theorem q_P_goesBefore_98 : decode m_P_goesBefore.2.1 98 = .ok (.goto 17, 3) := by decide +kernel
theorem q_P_goesBefore_101 : decode m_P_goesBefore.2.1 101 = .ok (.iconst 0, 1) := by decide +kernel
theorem q_P_goesBefore_102 : decode m_P_goesBefore.2.1 102 = .ok (.goto 13, 3) := by decide +kernel
theorem q_P_goesBefore_105 : decode m_P_goesBefore.2.1 105 = .ok (.iload_n 2, 1) := by decide +kernel
theorem q_P_goesBefore_106 : decode m_P_goesBefore.2.1 106 = .ok (.iload_n 3, 1) := by decide +kernel
theorem q_P_goesBefore_107 : decode m_P_goesBefore.2.1 107 = .ok (.if_icmp .ge 7, 3) := by decide +kernel
theorem q_P_goesBefore_110 : decode m_P_goesBefore.2.1 110 = .ok (.iconst 1, 1) := by decide +kernel
theorem q_P_goesBefore_111 : decode m_P_goesBefore.2.1 111 = .ok (.goto 4, 3) := by decide +kernel
theorem q_P_goesBefore_114 : decode m_P_goesBefore.2.1 114 = .ok (.iconst 0, 1) := by decide +kernel
theorem q_P_goesBefore_115 : decode m_P_goesBefore.2.1 115 = .ok (.ireturn, 1) := by decide +kernel
theorem q_P_leadByWorthByCost_0 : decode m_P_leadByWorthByCost.2.1 0 = .ok (.aload_n 0, 1) := by decide +kernel
theorem q_P_leadByWorthByCost_1 : decode m_P_leadByWorthByCost.2.1 1 = .ok (.getfield 15, 3) := by decide +kernel
theorem q_P_leadByWorthByCost_4 : decode m_P_leadByWorthByCost.2.1 4 = .ok (.getfield 57, 3) := by decide +kernel
theorem q_P_leadByWorthByCost_7 : decode m_P_leadByWorthByCost.2.1 7 = .ok (.iload_n 1, 1) := by decide +kernel
theorem q_P_leadByWorthByCost_8 : decode m_P_leadByWorthByCost.2.1 8 = .ok (.laload, 1) := by decide +kernel
theorem q_P_leadByWorthByCost_9 : decode m_P_leadByWorthByCost.2.1 9 = .ok (.lstore_n 3, 1) := by decide +kernel
theorem q_P_leadByWorthByCost_10 : decode m_P_leadByWorthByCost.2.1 10 = .ok (.aload_n 0, 1) := by decide +kernel
theorem q_P_leadByWorthByCost_11 : decode m_P_leadByWorthByCost.2.1 11 = .ok (.getfield 15, 3) := by decide +kernel
theorem q_P_leadByWorthByCost_14 : decode m_P_leadByWorthByCost.2.1 14 = .ok (.getfield 57, 3) := by decide +kernel
theorem q_P_leadByWorthByCost_17 : decode m_P_leadByWorthByCost.2.1 17 = .ok (.iload_n 2, 1) := by decide +kernel
theorem q_P_leadByWorthByCost_18 : decode m_P_leadByWorthByCost.2.1 18 = .ok (.laload, 1) := by decide +kernel
theorem q_P_leadByWorthByCost_19 : decode m_P_leadByWorthByCost.2.1 19 = .ok (.lstore 5, 2) := by decide +kernel
theorem q_P_leadByWorthByCost_21 : decode m_P_leadByWorthByCost.2.1 21 = .ok (.lload_n 3, 1) := by decide +kernel
theorem q_P_leadByWorthByCost_22 : decode m_P_leadByWorthByCost.2.1 22 = .ok (.lconst 0, 1) := by decide +kernel
theorem q_P_leadByWorthByCost_23 : decode m_P_leadByWorthByCost.2.1 23 = .ok (.lcmp, 1) := by decide +kernel
theorem q_P_leadByWorthByCost_24 : decode m_P_leadByWorthByCost.2.1 24 = .ok (.ifCond .eq 10, 3) := by decide +kernel
theorem q_P_leadByWorthByCost_27 : decode m_P_leadByWorthByCost.2.1 27 = .ok (.lload 5, 2) := by decide +kernel
theorem q_P_leadByWorthByCost_29 : decode m_P_leadByWorthByCost.2.1 29 = .ok (.lconst 0, 1) := by decide +kernel
theorem q_P_leadByWorthByCost_30 : decode m_P_leadByWorthByCost.2.1 30 = .ok (.lcmp, 1) := by decide +kernel
theorem q_P_leadByWorthByCost_31 : decode m_P_leadByWorthByCost.2.1 31 = .ok (.ifCond .ne 11, 3) := by decide +kernel
theorem q_P_leadByWorthByCost_34 : decode m_P_leadByWorthByCost.2.1 34 = .ok (.lload 5, 2) := by decide +kernel
theorem q_P_leadByWorthByCost_36 : decode m_P_leadByWorthByCost.2.1 36 = .ok (.lload_n 3, 1) := by decide +kernel
theorem q_P_leadByWorthByCost_37 : decode m_P_leadByWorthByCost.2.1 37 = .ok (.invokestatic 60, 3) := by decide +kernel
theorem q_P_leadByWorthByCost_40 : decode m_P_leadByWorthByCost.2.1 40 = .ok (.i2l, 1) := by decide +kernel
theorem q_P_leadByWorthByCost_41 : decode m_P_leadByWorthByCost.2.1 41 = .ok (.lreturn, 1) := by decide +kernel
theorem q_P_leadByWorthByCost_42 : decode m_P_leadByWorthByCost.2.1 42 = .ok (.aload_n 0, 1) := by decide +kernel
theorem q_P_leadByWorthByCost_43 : decode m_P_leadByWorthByCost.2.1 43 = .ok (.getfield 15, 3) := by decide +kernel
theorem q_P_leadByWorthByCost_46 : decode m_P_leadByWorthByCost.2.1 46 = .ok (.getfield 50, 3) := by decide +kernel
theorem q_P_leadByWorthByCost_49 : decode m_P_leadByWorthByCost.2.1 49 = .ok (.iload_n 1, 1) := by decide +kernel
theorem q_P_leadByWorthByCost_50 : decode m_P_leadByWorthByCost.2.1 50 = .ok (.laload, 1) := by decide +kernel
theorem q_P_leadByWorthByCost_51 : decode m_P_leadByWorthByCost.2.1 51 = .ok (.lload 5, 2) := by decide +kernel
theorem q_P_leadByWorthByCost_53 : decode m_P_leadByWorthByCost.2.1 53 = .ok (.lmul, 1) := by decide +kernel
theorem q_P_leadByWorthByCost_54 : decode m_P_leadByWorthByCost.2.1 54 = .ok (.aload_n 0, 1) := by decide +kernel
theorem q_P_leadByWorthByCost_55 : decode m_P_leadByWorthByCost.2.1 55 = .ok (.getfield 15, 3) := by decide +kernel
theorem q_P_leadByWorthByCost_58 : decode m_P_leadByWorthByCost.2.1 58 = .ok (.getfield 50, 3) := by decide +kernel
theorem q_P_leadByWorthByCost_61 : decode m_P_leadByWorthByCost.2.1 61 = .ok (.iload_n 2, 1) := by decide +kernel
theorem q_P_leadByWorthByCost_62 : decode m_P_leadByWorthByCost.2.1 62 = .ok (.laload, 1) := by decide +kernel
theorem q_P_leadByWorthByCost_63 : decode m_P_leadByWorthByCost.2.1 63 = .ok (.lload_n 3, 1) := by decide +kernel
theorem q_P_leadByWorthByCost_64 : decode m_P_leadByWorthByCost.2.1 64 = .ok (.lmul, 1) := by decide +kernel
theorem q_P_leadByWorthByCost_65 : decode m_P_leadByWorthByCost.2.1 65 = .ok (.lsub, 1) := by decide +kernel
theorem q_P_leadByWorthByCost_66 : decode m_P_leadByWorthByCost.2.1 66 = .ok (.lreturn, 1) := by decide +kernel
theorem q_W_init_0 : decode m_W_init.2.1 0 = .ok (.aload_n 0, 1) := by decide +kernel
theorem q_W_init_1 : decode m_W_init.2.1 1 = .ok (.invokespecial 3, 3) := by decide +kernel
theorem q_W_init_4 : decode m_W_init.2.1 4 = .ok (.aload_n 0, 1) := by decide +kernel
theorem q_W_init_5 : decode m_W_init.2.1 5 = .ok (.bipush 6, 2) := by decide +kernel
theorem q_W_init_7 : decode m_W_init.2.1 7 = .ok (.newarray .long, 2) := by decide +kernel
theorem q_W_init_9 : decode m_W_init.2.1 9 = .ok (.putfield 9, 3) := by decide +kernel
theorem q_W_init_12 : decode m_W_init.2.1 12 = .ok (.aload_n 0, 1) := by decide +kernel
theorem q_W_init_13 : decode m_W_init.2.1 13 = .ok (.bipush 12, 2) := by decide +kernel
theorem q_W_init_15 : decode m_W_init.2.1 15 = .ok (.newarray .int, 2) := by decide +kernel
theorem q_W_init_17 : decode m_W_init.2.1 17 = .ok (.putfield 15, 3) := by decide +kernel
theorem q_W_init_20 : decode m_W_init.2.1 20 = .ok (.aload_n 0, 1) := by decide +kernel
theorem q_W_init_21 : decode m_W_init.2.1 21 = .ok (.bipush 12, 2) := by decide +kernel
theorem q_W_init_23 : decode m_W_init.2.1 23 = .ok (.newarray .int, 2) := by decide +kernel
theorem q_W_init_25 : decode m_W_init.2.1 25 = .ok (.putfield 19, 3) := by decide +kernel
theorem q_W_init_28 : decode m_W_init.2.1 28 = .ok (.aload_n 0, 1) := by decide +kernel
theorem q_W_init_29 : decode m_W_init.2.1 29 = .ok (.bipush 14, 2) := by decide +kernel
theorem q_W_init_31 : decode m_W_init.2.1 31 = .ok (.newarray .int, 2) := by decide +kernel
theorem q_W_init_33 : decode m_W_init.2.1 33 = .ok (.putfield 22, 3) := by decide +kernel
theorem q_W_init_36 : decode m_W_init.2.1 36 = .ok (.aload_n 0, 1) := by decide +kernel
theorem q_W_init_37 : decode m_W_init.2.1 37 = .ok (.bipush 14, 2) := by decide +kernel
theorem q_W_init_39 : decode m_W_init.2.1 39 = .ok (.newarray .int, 2) := by decide +kernel
theorem q_W_init_41 : decode m_W_init.2.1 41 = .ok (.putfield 25, 3) := by decide +kernel
theorem q_W_init_44 : decode m_W_init.2.1 44 = .ok (.aload_n 0, 1) := by decide +kernel
theorem q_W_init_45 : decode m_W_init.2.1 45 = .ok (.bipush 14, 2) := by decide +kernel
theorem q_W_init_47 : decode m_W_init.2.1 47 = .ok (.newarray .long, 2) := by decide +kernel
theorem q_W_init_49 : decode m_W_init.2.1 49 = .ok (.putfield 28, 3) := by decide +kernel
theorem q_W_init_52 : decode m_W_init.2.1 52 = .ok (.aload_n 0, 1) := by decide +kernel
theorem q_W_init_53 : decode m_W_init.2.1 53 = .ok (.bipush 14, 2) := by decide +kernel
theorem q_W_init_55 : decode m_W_init.2.1 55 = .ok (.newarray .long, 2) := by decide +kernel
theorem q_W_init_57 : decode m_W_init.2.1 57 = .ok (.putfield 31, 3) := by decide +kernel
theorem q_W_init_60 : decode m_W_init.2.1 60 = .ok (.aload_n 0, 1) := by decide +kernel
theorem q_W_init_61 : decode m_W_init.2.1 61 = .ok (.bipush 14, 2) := by decide +kernel
theorem q_W_init_63 : decode m_W_init.2.1 63 = .ok (.newarray .int, 2) := by decide +kernel
theorem q_W_init_65 : decode m_W_init.2.1 65 = .ok (.putfield 34, 3) := by decide +kernel
theorem q_W_init_68 : decode m_W_init.2.1 68 = .ok (.aload_n 0, 1) := by decide +kernel
theorem q_W_init_69 : decode m_W_init.2.1 69 = .ok (.bipush 14, 2) := by decide +kernel
theorem q_W_init_71 : decode m_W_init.2.1 71 = .ok (.bipush 14, 2) := by decide +kernel
theorem q_W_init_73 : decode m_W_init.2.1 73 = .ok (.multianewarray 37 2, 4) := by decide +kernel
theorem q_W_init_77 : decode m_W_init.2.1 77 = .ok (.putfield 39, 3) := by decide +kernel
theorem q_W_init_80 : decode m_W_init.2.1 80 = .ok (.aload_n 0, 1) := by decide +kernel
theorem q_W_init_81 : decode m_W_init.2.1 81 = .ok (.ldc2_w 42, 3) := by decide +kernel
theorem q_W_init_84 : decode m_W_init.2.1 84 = .ok (.putfield 44, 3) := by decide +kernel
theorem q_W_init_87 : decode m_W_init.2.1 87 = .ok (.aload_n 0, 1) := by decide +kernel
theorem q_W_init_88 : decode m_W_init.2.1 88 = .ok (.iload_n 1, 1) := by decide +kernel
theorem q_W_init_89 : decode m_W_init.2.1 89 = .ok (.putfield 48, 3) := by decide +kernel
theorem q_W_init_92 : decode m_W_init.2.1 92 = .ok (.return_, 1) := by decide +kernel
theorem q_W_isYear_0 : decode m_W_isYear.2.1 0 = .ok (.iload_n 1, 1) := by decide +kernel
theorem q_W_isYear_1 : decode m_W_isYear.2.1 1 = .ok (.ifCond .lt 15, 3) := by decide +kernel
theorem q_W_isYear_4 : decode m_W_isYear.2.1 4 = .ok (.iload_n 1, 1) := by decide +kernel
theorem q_W_isYear_5 : decode m_W_isYear.2.1 5 = .ok (.aload_n 0, 1) := by decide +kernel
theorem q_W_isYear_6 : decode m_W_isYear.2.1 6 = .ok (.getfield 48, 3) := by decide +kernel
theorem q_W_isYear_9 : decode m_W_isYear.2.1 9 = .ok (.if_icmp .ge 7, 3) := by decide +kernel
theorem q_W_isYear_12 : decode m_W_isYear.2.1 12 = .ok (.iconst 1, 1) := by decide +kernel
theorem q_W_isYear_13 : decode m_W_isYear.2.1 13 = .ok (.goto 4, 3) := by decide +kernel
theorem q_W_isYear_16 : decode m_W_isYear.2.1 16 = .ok (.iconst 0, 1) := by decide +kernel
theorem q_W_isYear_17 : decode m_W_isYear.2.1 17 = .ok (.ireturn, 1) := by decide +kernel
theorem q_W_isThing_0 : decode m_W_isThing.2.1 0 = .ok (.iload_n 1, 1) := by decide +kernel
theorem q_W_isThing_1 : decode m_W_isThing.2.1 1 = .ok (.ifCond .lt 15, 3) := by decide +kernel
theorem q_W_isThing_4 : decode m_W_isThing.2.1 4 = .ok (.iload_n 1, 1) := by decide +kernel
theorem q_W_isThing_5 : decode m_W_isThing.2.1 5 = .ok (.aload_n 0, 1) := by decide +kernel
theorem q_W_isThing_6 : decode m_W_isThing.2.1 6 = .ok (.getfield 52, 3) := by decide +kernel
theorem q_W_isThing_9 : decode m_W_isThing.2.1 9 = .ok (.if_icmp .ge 7, 3) := by decide +kernel
theorem q_W_isThing_12 : decode m_W_isThing.2.1 12 = .ok (.iconst 1, 1) := by decide +kernel
theorem q_W_isThing_13 : decode m_W_isThing.2.1 13 = .ok (.goto 4, 3) := by decide +kernel
theorem q_W_isThing_16 : decode m_W_isThing.2.1 16 = .ok (.iconst 0, 1) := by decide +kernel
theorem q_W_isThing_17 : decode m_W_isThing.2.1 17 = .ok (.ireturn, 1) := by decide +kernel
theorem q_W_isChoice_0 : decode m_W_isChoice.2.1 0 = .ok (.iload_n 1, 1) := by decide +kernel
theorem q_W_isChoice_1 : decode m_W_isChoice.2.1 1 = .ok (.ifCond .lt 15, 3) := by decide +kernel
theorem q_W_isChoice_4 : decode m_W_isChoice.2.1 4 = .ok (.iload_n 1, 1) := by decide +kernel
theorem q_W_isChoice_5 : decode m_W_isChoice.2.1 5 = .ok (.aload_n 0, 1) := by decide +kernel
theorem q_W_isChoice_6 : decode m_W_isChoice.2.1 6 = .ok (.getfield 55, 3) := by decide +kernel
theorem q_W_isChoice_9 : decode m_W_isChoice.2.1 9 = .ok (.if_icmp .ge 7, 3) := by decide +kernel
theorem q_W_isChoice_12 : decode m_W_isChoice.2.1 12 = .ok (.iconst 1, 1) := by decide +kernel
theorem q_W_isChoice_13 : decode m_W_isChoice.2.1 13 = .ok (.goto 4, 3) := by decide +kernel
theorem q_W_isChoice_16 : decode m_W_isChoice.2.1 16 = .ok (.iconst 0, 1) := by decide +kernel
theorem q_W_isChoice_17 : decode m_W_isChoice.2.1 17 = .ok (.ireturn, 1) := by decide +kernel
theorem q_W_countOfSets_0 : decode m_W_countOfSets.2.1 0 = .ok (.iconst 1, 1) := by decide +kernel
theorem q_W_countOfSets_1 : decode m_W_countOfSets.2.1 1 = .ok (.aload_n 0, 1) := by decide +kernel
theorem q_W_countOfSets_2 : decode m_W_countOfSets.2.1 2 = .ok (.getfield 55, 3) := by decide +kernel
theorem q_W_countOfSets_5 : decode m_W_countOfSets.2.1 5 = .ok (.ishl, 1) := by decide +kernel
theorem q_W_countOfSets_6 : decode m_W_countOfSets.2.1 6 = .ok (.ireturn, 1) := by decide +kernel
theorem q_W_addThing_0 : decode m_W_addThing.2.1 0 = .ok (.aload_n 0, 1) := by decide +kernel
theorem q_W_addThing_1 : decode m_W_addThing.2.1 1 = .ok (.getfield 15, 3) := by decide +kernel
theorem q_W_addThing_4 : decode m_W_addThing.2.1 4 = .ok (.aload_n 0, 1) := by decide +kernel
theorem q_W_addThing_5 : decode m_W_addThing.2.1 5 = .ok (.getfield 52, 3) := by decide +kernel
theorem q_W_addThing_8 : decode m_W_addThing.2.1 8 = .ok (.iload_n 1, 1) := by decide +kernel
theorem q_W_addThing_9 : decode m_W_addThing.2.1 9 = .ok (.iastore, 1) := by decide +kernel
theorem q_W_addThing_10 : decode m_W_addThing.2.1 10 = .ok (.aload_n 0, 1) := by decide +kernel
theorem q_W_addThing_11 : decode m_W_addThing.2.1 11 = .ok (.dup, 1) := by decide +kernel
theorem q_W_addThing_12 : decode m_W_addThing.2.1 12 = .ok (.getfield 52, 3) := by decide +kernel
theorem q_W_addThing_15 : decode m_W_addThing.2.1 15 = .ok (.iconst 1, 1) := by decide +kernel
theorem q_W_addThing_16 : decode m_W_addThing.2.1 16 = .ok (.iadd, 1) := by decide +kernel
theorem q_W_addThing_17 : decode m_W_addThing.2.1 17 = .ok (.putfield 52, 3) := by decide +kernel
theorem q_W_addThing_20 : decode m_W_addThing.2.1 20 = .ok (.aload_n 0, 1) := by decide +kernel
theorem q_W_addThing_21 : decode m_W_addThing.2.1 21 = .ok (.getfield 52, 3) := by decide +kernel
theorem q_W_addThing_24 : decode m_W_addThing.2.1 24 = .ok (.iconst 1, 1) := by decide +kernel
theorem q_W_addThing_25 : decode m_W_addThing.2.1 25 = .ok (.isub, 1) := by decide +kernel
theorem q_W_addThing_26 : decode m_W_addThing.2.1 26 = .ok (.ireturn, 1) := by decide +kernel
theorem q_W_addChoice_0 : decode m_W_addChoice.2.1 0 = .ok (.aload_n 0, 1) := by decide +kernel
theorem q_W_addChoice_1 : decode m_W_addChoice.2.1 1 = .ok (.getfield 22, 3) := by decide +kernel
theorem q_W_addChoice_4 : decode m_W_addChoice.2.1 4 = .ok (.aload_n 0, 1) := by decide +kernel
theorem q_W_addChoice_5 : decode m_W_addChoice.2.1 5 = .ok (.getfield 55, 3) := by decide +kernel
theorem q_W_addChoice_8 : decode m_W_addChoice.2.1 8 = .ok (.iload_n 1, 1) := by decide +kernel
theorem q_W_addChoice_9 : decode m_W_addChoice.2.1 9 = .ok (.iastore, 1) := by decide +kernel
theorem q_W_addChoice_10 : decode m_W_addChoice.2.1 10 = .ok (.aload_n 0, 1) := by decide +kernel
theorem q_W_addChoice_11 : decode m_W_addChoice.2.1 11 = .ok (.getfield 25, 3) := by decide +kernel
theorem q_W_addChoice_14 : decode m_W_addChoice.2.1 14 = .ok (.aload_n 0, 1) := by decide +kernel
theorem q_W_addChoice_15 : decode m_W_addChoice.2.1 15 = .ok (.getfield 55, 3) := by decide +kernel
theorem q_W_addChoice_18 : decode m_W_addChoice.2.1 18 = .ok (.iload_n 2, 1) := by decide +kernel
theorem q_W_addChoice_19 : decode m_W_addChoice.2.1 19 = .ok (.iastore, 1) := by decide +kernel
theorem q_W_addChoice_20 : decode m_W_addChoice.2.1 20 = .ok (.aload_n 0, 1) := by decide +kernel
theorem q_W_addChoice_21 : decode m_W_addChoice.2.1 21 = .ok (.getfield 28, 3) := by decide +kernel
theorem q_W_addChoice_24 : decode m_W_addChoice.2.1 24 = .ok (.aload_n 0, 1) := by decide +kernel
theorem q_W_addChoice_25 : decode m_W_addChoice.2.1 25 = .ok (.getfield 55, 3) := by decide +kernel
theorem q_W_addChoice_28 : decode m_W_addChoice.2.1 28 = .ok (.lload_n 3, 1) := by decide +kernel
theorem q_W_addChoice_29 : decode m_W_addChoice.2.1 29 = .ok (.lastore, 1) := by decide +kernel
theorem q_W_addChoice_30 : decode m_W_addChoice.2.1 30 = .ok (.aload_n 0, 1) := by decide +kernel
theorem q_W_addChoice_31 : decode m_W_addChoice.2.1 31 = .ok (.getfield 31, 3) := by decide +kernel
theorem q_W_addChoice_34 : decode m_W_addChoice.2.1 34 = .ok (.aload_n 0, 1) := by decide +kernel
theorem q_W_addChoice_35 : decode m_W_addChoice.2.1 35 = .ok (.getfield 55, 3) := by decide +kernel
theorem q_W_addChoice_38 : decode m_W_addChoice.2.1 38 = .ok (.lload 5, 2) := by decide +kernel
theorem q_W_addChoice_40 : decode m_W_addChoice.2.1 40 = .ok (.lastore, 1) := by decide +kernel
theorem q_W_addChoice_41 : decode m_W_addChoice.2.1 41 = .ok (.aload_n 0, 1) := by decide +kernel
theorem q_W_addChoice_42 : decode m_W_addChoice.2.1 42 = .ok (.dup, 1) := by decide +kernel
theorem q_W_addChoice_43 : decode m_W_addChoice.2.1 43 = .ok (.getfield 55, 3) := by decide +kernel
theorem q_W_addChoice_46 : decode m_W_addChoice.2.1 46 = .ok (.iconst 1, 1) := by decide +kernel
theorem q_W_addChoice_47 : decode m_W_addChoice.2.1 47 = .ok (.iadd, 1) := by decide +kernel
theorem q_W_addChoice_48 : decode m_W_addChoice.2.1 48 = .ok (.putfield 55, 3) := by decide +kernel
theorem q_W_addChoice_51 : decode m_W_addChoice.2.1 51 = .ok (.aload_n 0, 1) := by decide +kernel
theorem q_W_addChoice_52 : decode m_W_addChoice.2.1 52 = .ok (.getfield 55, 3) := by decide +kernel
theorem q_W_addChoice_55 : decode m_W_addChoice.2.1 55 = .ok (.iconst 1, 1) := by decide +kernel
theorem q_W_addChoice_56 : decode m_W_addChoice.2.1 56 = .ok (.isub, 1) := by decide +kernel
theorem q_W_addChoice_57 : decode m_W_addChoice.2.1 57 = .ok (.ireturn, 1) := by decide +kernel
theorem q_W_canJoin_0 : decode m_W_canJoin.2.1 0 = .ok (.aload_n 0, 1) := by decide +kernel
theorem q_W_canJoin_1 : decode m_W_canJoin.2.1 1 = .ok (.getfield 22, 3) := by decide +kernel
theorem q_W_canJoin_4 : decode m_W_canJoin.2.1 4 = .ok (.iload_n 1, 1) := by decide +kernel
theorem q_W_canJoin_5 : decode m_W_canJoin.2.1 5 = .ok (.iaload, 1) := by decide +kernel
theorem q_W_canJoin_6 : decode m_W_canJoin.2.1 6 = .ok (.aload_n 0, 1) := by decide +kernel
theorem q_W_canJoin_7 : decode m_W_canJoin.2.1 7 = .ok (.getfield 22, 3) := by decide +kernel
theorem q_W_canJoin_10 : decode m_W_canJoin.2.1 10 = .ok (.iload_n 2, 1) := by decide +kernel
theorem q_W_canJoin_11 : decode m_W_canJoin.2.1 11 = .ok (.iaload, 1) := by decide +kernel
theorem q_W_canJoin_12 : decode m_W_canJoin.2.1 12 = .ok (.if_icmp .eq 35, 3) := by decide +kernel
theorem q_W_canJoin_15 : decode m_W_canJoin.2.1 15 = .ok (.aload_n 0, 1) := by decide +kernel
theorem q_W_canJoin_16 : decode m_W_canJoin.2.1 16 = .ok (.getfield 25, 3) := by decide +kernel
theorem q_W_canJoin_19 : decode m_W_canJoin.2.1 19 = .ok (.iload_n 1, 1) := by decide +kernel
theorem q_W_canJoin_20 : decode m_W_canJoin.2.1 20 = .ok (.iaload, 1) := by decide +kernel
theorem q_W_canJoin_21 : decode m_W_canJoin.2.1 21 = .ok (.aload_n 0, 1) := by decide +kernel
theorem q_W_canJoin_22 : decode m_W_canJoin.2.1 22 = .ok (.getfield 25, 3) := by decide +kernel
theorem q_W_canJoin_25 : decode m_W_canJoin.2.1 25 = .ok (.iload_n 2, 1) := by decide +kernel
theorem q_W_canJoin_26 : decode m_W_canJoin.2.1 26 = .ok (.iaload, 1) := by decide +kernel
theorem q_W_canJoin_27 : decode m_W_canJoin.2.1 27 = .ok (.if_icmp .ne 20, 3) := by decide +kernel
theorem q_W_canJoin_30 : decode m_W_canJoin.2.1 30 = .ok (.aload_n 0, 1) := by decide +kernel
theorem q_W_canJoin_31 : decode m_W_canJoin.2.1 31 = .ok (.getfield 34, 3) := by decide +kernel
theorem q_W_canJoin_34 : decode m_W_canJoin.2.1 34 = .ok (.iload_n 1, 1) := by decide +kernel
theorem q_W_canJoin_35 : decode m_W_canJoin.2.1 35 = .ok (.iaload, 1) := by decide +kernel
theorem q_W_canJoin_36 : decode m_W_canJoin.2.1 36 = .ok (.iload_n 2, 1) := by decide +kernel
theorem q_W_canJoin_37 : decode m_W_canJoin.2.1 37 = .ok (.invokestatic 58, 3) := by decide +kernel
theorem q_W_canJoin_40 : decode m_W_canJoin.2.1 40 = .ok (.ifCond .ne 7, 3) := by decide +kernel
theorem q_W_canJoin_43 : decode m_W_canJoin.2.1 43 = .ok (.iconst 1, 1) := by decide +kernel
theorem q_W_canJoin_44 : decode m_W_canJoin.2.1 44 = .ok (.goto 4, 3) := by decide +kernel
theorem q_W_canJoin_47 : decode m_W_canJoin.2.1 47 = .ok (.iconst 0, 1) := by decide +kernel
theorem q_W_canJoin_48 : decode m_W_canJoin.2.1 48 = .ok (.ireturn, 1) := by decide +kernel
theorem q_W_addJoin_0 : decode m_W_addJoin.2.1 0 = .ok (.aload_n 0, 1) := by decide +kernel
theorem q_W_addJoin_1 : decode m_W_addJoin.2.1 1 = .ok (.getfield 34, 3) := by decide +kernel
theorem q_W_addJoin_4 : decode m_W_addJoin.2.1 4 = .ok (.iload_n 1, 1) := by decide +kernel
theorem q_W_addJoin_5 : decode m_W_addJoin.2.1 5 = .ok (.dup2, 1) := by decide +kernel
theorem q_W_addJoin_6 : decode m_W_addJoin.2.1 6 = .ok (.iaload, 1) := by decide +kernel
theorem q_W_addJoin_7 : decode m_W_addJoin.2.1 7 = .ok (.iconst 1, 1) := by decide +kernel
theorem q_W_addJoin_8 : decode m_W_addJoin.2.1 8 = .ok (.iload_n 2, 1) := by decide +kernel
theorem q_W_addJoin_9 : decode m_W_addJoin.2.1 9 = .ok (.ishl, 1) := by decide +kernel
theorem q_W_addJoin_10 : decode m_W_addJoin.2.1 10 = .ok (.ior, 1) := by decide +kernel
theorem q_W_addJoin_11 : decode m_W_addJoin.2.1 11 = .ok (.iastore, 1) := by decide +kernel
theorem q_W_addJoin_12 : decode m_W_addJoin.2.1 12 = .ok (.aload_n 0, 1) := by decide +kernel
theorem q_W_addJoin_13 : decode m_W_addJoin.2.1 13 = .ok (.getfield 34, 3) := by decide +kernel
theorem q_W_addJoin_16 : decode m_W_addJoin.2.1 16 = .ok (.iload_n 2, 1) := by decide +kernel
theorem q_W_addJoin_17 : decode m_W_addJoin.2.1 17 = .ok (.dup2, 1) := by decide +kernel
theorem q_W_addJoin_18 : decode m_W_addJoin.2.1 18 = .ok (.iaload, 1) := by decide +kernel
theorem q_W_addJoin_19 : decode m_W_addJoin.2.1 19 = .ok (.iconst 1, 1) := by decide +kernel
theorem q_W_addJoin_20 : decode m_W_addJoin.2.1 20 = .ok (.iload_n 1, 1) := by decide +kernel
theorem q_W_addJoin_21 : decode m_W_addJoin.2.1 21 = .ok (.ishl, 1) := by decide +kernel
theorem q_W_addJoin_22 : decode m_W_addJoin.2.1 22 = .ok (.ior, 1) := by decide +kernel
theorem q_W_addJoin_23 : decode m_W_addJoin.2.1 23 = .ok (.iastore, 1) := by decide +kernel
theorem q_W_addJoin_24 : decode m_W_addJoin.2.1 24 = .ok (.aload_n 0, 1) := by decide +kernel
theorem q_W_addJoin_25 : decode m_W_addJoin.2.1 25 = .ok (.getfield 39, 3) := by decide +kernel
theorem q_W_addJoin_28 : decode m_W_addJoin.2.1 28 = .ok (.iload_n 1, 1) := by decide +kernel
theorem q_W_addJoin_29 : decode m_W_addJoin.2.1 29 = .ok (.aaload, 1) := by decide +kernel
theorem q_W_addJoin_30 : decode m_W_addJoin.2.1 30 = .ok (.iload_n 2, 1) := by decide +kernel
theorem q_W_addJoin_31 : decode m_W_addJoin.2.1 31 = .ok (.lload_n 3, 1) := by decide +kernel
theorem q_W_addJoin_32 : decode m_W_addJoin.2.1 32 = .ok (.lastore, 1) := by decide +kernel
theorem q_W_addJoin_33 : decode m_W_addJoin.2.1 33 = .ok (.aload_n 0, 1) := by decide +kernel
theorem q_W_addJoin_34 : decode m_W_addJoin.2.1 34 = .ok (.getfield 39, 3) := by decide +kernel
theorem q_W_addJoin_37 : decode m_W_addJoin.2.1 37 = .ok (.iload_n 2, 1) := by decide +kernel
theorem q_W_addJoin_38 : decode m_W_addJoin.2.1 38 = .ok (.aaload, 1) := by decide +kernel
theorem q_W_addJoin_39 : decode m_W_addJoin.2.1 39 = .ok (.iload_n 1, 1) := by decide +kernel
theorem q_W_addJoin_40 : decode m_W_addJoin.2.1 40 = .ok (.lload_n 3, 1) := by decide +kernel
theorem q_W_addJoin_41 : decode m_W_addJoin.2.1 41 = .ok (.lastore, 1) := by decide +kernel
theorem q_W_addJoin_42 : decode m_W_addJoin.2.1 42 = .ok (.aload_n 0, 1) := by decide +kernel
theorem q_W_addJoin_43 : decode m_W_addJoin.2.1 43 = .ok (.dup, 1) := by decide +kernel
theorem q_W_addJoin_44 : decode m_W_addJoin.2.1 44 = .ok (.getfield 62, 3) := by decide +kernel
theorem q_W_addJoin_47 : decode m_W_addJoin.2.1 47 = .ok (.iconst 1, 1) := by decide +kernel
theorem q_W_addJoin_48 : decode m_W_addJoin.2.1 48 = .ok (.iadd, 1) := by decide +kernel
theorem q_W_addJoin_49 : decode m_W_addJoin.2.1 49 = .ok (.putfield 62, 3) := by decide +kernel
theorem q_W_addJoin_52 : decode m_W_addJoin.2.1 52 = .ok (.return_, 1) := by decide +kernel
theorem q_W_savesWith_0 : decode m_W_savesWith.2.1 0 = .ok (.aload_n 0, 1) := by decide +kernel
theorem q_W_savesWith_1 : decode m_W_savesWith.2.1 1 = .ok (.getfield 34, 3) := by decide +kernel
theorem q_W_savesWith_4 : decode m_W_savesWith.2.1 4 = .ok (.iload_n 1, 1) := by decide +kernel
theorem q_W_savesWith_5 : decode m_W_savesWith.2.1 5 = .ok (.iaload, 1) := by decide +kernel
theorem q_W_savesWith_6 : decode m_W_savesWith.2.1 6 = .ok (.iload_n 2, 1) := by decide +kernel
theorem q_W_savesWith_7 : decode m_W_savesWith.2.1 7 = .ok (.iand, 1) := by decide +kernel
theorem q_W_savesWith_8 : decode m_W_savesWith.2.1 8 = .ok (.istore_n 3, 1) := by decide +kernel
theorem q_W_savesWith_9 : decode m_W_savesWith.2.1 9 = .ok (.lconst 0, 1) := by decide +kernel
theorem q_W_savesWith_10 : decode m_W_savesWith.2.1 10 = .ok (.lstore 4, 2) := by decide +kernel
theorem q_W_savesWith_12 : decode m_W_savesWith.2.1 12 = .ok (.iconst 0, 1) := by decide +kernel
theorem q_W_savesWith_13 : decode m_W_savesWith.2.1 13 = .ok (.istore 6, 2) := by decide +kernel
theorem q_W_savesWith_15 : decode m_W_savesWith.2.1 15 = .ok (.iload 6, 2) := by decide +kernel
theorem q_W_savesWith_17 : decode m_W_savesWith.2.1 17 = .ok (.aload_n 0, 1) := by decide +kernel
theorem q_W_savesWith_18 : decode m_W_savesWith.2.1 18 = .ok (.getfield 55, 3) := by decide +kernel
theorem q_W_savesWith_21 : decode m_W_savesWith.2.1 21 = .ok (.if_icmp .ge 40, 3) := by decide +kernel
theorem q_W_savesWith_24 : decode m_W_savesWith.2.1 24 = .ok (.iload_n 3, 1) := by decide +kernel
theorem q_W_savesWith_25 : decode m_W_savesWith.2.1 25 = .ok (.iload 6, 2) := by decide +kernel
theorem q_W_savesWith_27 : decode m_W_savesWith.2.1 27 = .ok (.ishr, 1) := by decide +kernel
theorem q_W_savesWith_28 : decode m_W_savesWith.2.1 28 = .ok (.ifCond .eq 33, 3) := by decide +kernel
theorem q_W_savesWith_31 : decode m_W_savesWith.2.1 31 = .ok (.iload_n 3, 1) := by decide +kernel
theorem q_W_savesWith_32 : decode m_W_savesWith.2.1 32 = .ok (.iload 6, 2) := by decide +kernel
theorem q_W_savesWith_34 : decode m_W_savesWith.2.1 34 = .ok (.ishr, 1) := by decide +kernel
theorem q_W_savesWith_35 : decode m_W_savesWith.2.1 35 = .ok (.iconst 1, 1) := by decide +kernel
theorem q_W_savesWith_36 : decode m_W_savesWith.2.1 36 = .ok (.iand, 1) := by decide +kernel
theorem q_W_savesWith_37 : decode m_W_savesWith.2.1 37 = .ok (.iconst 1, 1) := by decide +kernel
theorem q_W_savesWith_38 : decode m_W_savesWith.2.1 38 = .ok (.if_icmp .ne 17, 3) := by decide +kernel
theorem q_W_savesWith_41 : decode m_W_savesWith.2.1 41 = .ok (.lload 4, 2) := by decide +kernel
theorem q_W_savesWith_43 : decode m_W_savesWith.2.1 43 = .ok (.aload_n 0, 1) := by decide +kernel
theorem q_W_savesWith_44 : decode m_W_savesWith.2.1 44 = .ok (.getfield 39, 3) := by decide +kernel
theorem q_W_savesWith_47 : decode m_W_savesWith.2.1 47 = .ok (.iload_n 1, 1) := by decide +kernel
theorem q_W_savesWith_48 : decode m_W_savesWith.2.1 48 = .ok (.aaload, 1) := by decide +kernel
theorem q_W_savesWith_49 : decode m_W_savesWith.2.1 49 = .ok (.iload 6, 2) := by decide +kernel
theorem q_W_savesWith_51 : decode m_W_savesWith.2.1 51 = .ok (.laload, 1) := by decide +kernel
theorem q_W_savesWith_52 : decode m_W_savesWith.2.1 52 = .ok (.ladd, 1) := by decide +kernel
theorem q_W_savesWith_53 : decode m_W_savesWith.2.1 53 = .ok (.lstore 4, 2) := by decide +kernel
theorem q_W_savesWith_55 : decode m_W_savesWith.2.1 55 = .ok (.iinc 6 1, 3) := by decide +kernel
theorem q_W_savesWith_58 : decode m_W_savesWith.2.1 58 = .ok (.goto (-43), 3) := by decide +kernel
theorem q_W_savesWith_61 : decode m_W_savesWith.2.1 61 = .ok (.lload 4, 2) := by decide +kernel
theorem q_W_savesWith_63 : decode m_W_savesWith.2.1 63 = .ok (.lreturn, 1) := by decide +kernel
theorem q_W_savesOfAllJoins_0 : decode m_W_savesOfAllJoins.2.1 0 = .ok (.aload_n 0, 1) := by decide +kernel
theorem q_W_savesOfAllJoins_1 : decode m_W_savesOfAllJoins.2.1 1 = .ok (.iload_n 1, 1) := by decide +kernel
theorem q_W_savesOfAllJoins_2 : decode m_W_savesOfAllJoins.2.1 2 = .ok (.aload_n 0, 1) := by decide +kernel
theorem q_W_savesOfAllJoins_3 : decode m_W_savesOfAllJoins.2.1 3 = .ok (.getfield 34, 3) := by decide +kernel
theorem q_W_savesOfAllJoins_6 : decode m_W_savesOfAllJoins.2.1 6 = .ok (.iload_n 1, 1) := by decide +kernel
theorem q_W_savesOfAllJoins_7 : decode m_W_savesOfAllJoins.2.1 7 = .ok (.iaload, 1) := by decide +kernel
theorem q_W_savesOfAllJoins_8 : decode m_W_savesOfAllJoins.2.1 8 = .ok (.invokevirtual 65, 3) := by decide +kernel
theorem q_W_savesOfAllJoins_11 : decode m_W_savesOfAllJoins.2.1 11 = .ok (.lreturn, 1) := by decide +kernel
theorem q_W_spentIn_0 : decode m_W_spentIn.2.1 0 = .ok (.lconst 0, 1) := by decide +kernel
theorem q_W_spentIn_1 : decode m_W_spentIn.2.1 1 = .ok (.lstore_n 3, 1) := by decide +kernel
theorem q_W_spentIn_2 : decode m_W_spentIn.2.1 2 = .ok (.iconst 0, 1) := by decide +kernel
theorem q_W_spentIn_3 : decode m_W_spentIn.2.1 3 = .ok (.istore 5, 2) := by decide +kernel
theorem q_W_spentIn_5 : decode m_W_spentIn.2.1 5 = .ok (.iconst 0, 1) := by decide +kernel
theorem q_W_spentIn_6 : decode m_W_spentIn.2.1 6 = .ok (.istore 6, 2) := by decide +kernel
theorem q_W_spentIn_8 : decode m_W_spentIn.2.1 8 = .ok (.iload 6, 2) := by decide +kernel
theorem q_W_spentIn_10 : decode m_W_spentIn.2.1 10 = .ok (.aload_n 0, 1) := by decide +kernel
theorem q_W_spentIn_11 : decode m_W_spentIn.2.1 11 = .ok (.getfield 55, 3) := by decide +kernel
theorem q_W_spentIn_14 : decode m_W_spentIn.2.1 14 = .ok (.if_icmp .ge 57, 3) := by decide +kernel
theorem q_W_spentIn_17 : decode m_W_spentIn.2.1 17 = .ok (.iload_n 1, 1) := by decide +kernel
theorem q_W_spentIn_18 : decode m_W_spentIn.2.1 18 = .ok (.iload 6, 2) := by decide +kernel
theorem q_W_spentIn_20 : decode m_W_spentIn.2.1 20 = .ok (.invokestatic 58, 3) := by decide +kernel
theorem q_W_spentIn_23 : decode m_W_spentIn.2.1 23 = .ok (.ifCond .eq 42, 3) := by decide +kernel
theorem q_W_spentIn_26 : decode m_W_spentIn.2.1 26 = .ok (.aload_n 0, 1) := by decide +kernel
theorem q_W_spentIn_27 : decode m_W_spentIn.2.1 27 = .ok (.getfield 25, 3) := by decide +kernel
theorem q_W_spentIn_30 : decode m_W_spentIn.2.1 30 = .ok (.iload 6, 2) := by decide +kernel
theorem q_W_spentIn_32 : decode m_W_spentIn.2.1 32 = .ok (.iaload, 1) := by decide +kernel
theorem q_W_spentIn_33 : decode m_W_spentIn.2.1 33 = .ok (.iload_n 2, 1) := by decide +kernel
theorem q_W_spentIn_34 : decode m_W_spentIn.2.1 34 = .ok (.if_icmp .ne 31, 3) := by decide +kernel
theorem q_W_spentIn_37 : decode m_W_spentIn.2.1 37 = .ok (.lload_n 3, 1) := by decide +kernel
theorem q_W_spentIn_38 : decode m_W_spentIn.2.1 38 = .ok (.aload_n 0, 1) := by decide +kernel
theorem q_W_spentIn_39 : decode m_W_spentIn.2.1 39 = .ok (.getfield 28, 3) := by decide +kernel
theorem q_W_spentIn_42 : decode m_W_spentIn.2.1 42 = .ok (.iload 6, 2) := by decide +kernel
theorem q_W_spentIn_44 : decode m_W_spentIn.2.1 44 = .ok (.laload, 1) := by decide +kernel
theorem q_W_spentIn_45 : decode m_W_spentIn.2.1 45 = .ok (.aload_n 0, 1) := by decide +kernel
theorem q_W_spentIn_46 : decode m_W_spentIn.2.1 46 = .ok (.iload 6, 2) := by decide +kernel
theorem q_W_spentIn_48 : decode m_W_spentIn.2.1 48 = .ok (.iload 5, 2) := by decide +kernel
theorem q_W_spentIn_50 : decode m_W_spentIn.2.1 50 = .ok (.invokevirtual 65, 3) := by decide +kernel
theorem q_W_spentIn_53 : decode m_W_spentIn.2.1 53 = .ok (.lsub, 1) := by decide +kernel
theorem q_W_spentIn_54 : decode m_W_spentIn.2.1 54 = .ok (.ladd, 1) := by decide +kernel
theorem q_W_spentIn_55 : decode m_W_spentIn.2.1 55 = .ok (.lstore_n 3, 1) := by decide +kernel
theorem q_W_spentIn_56 : decode m_W_spentIn.2.1 56 = .ok (.iload 5, 2) := by decide +kernel
theorem q_W_spentIn_58 : decode m_W_spentIn.2.1 58 = .ok (.iconst 1, 1) := by decide +kernel
theorem q_W_spentIn_59 : decode m_W_spentIn.2.1 59 = .ok (.iload 6, 2) := by decide +kernel
theorem q_W_spentIn_61 : decode m_W_spentIn.2.1 61 = .ok (.ishl, 1) := by decide +kernel
theorem q_W_spentIn_62 : decode m_W_spentIn.2.1 62 = .ok (.ior, 1) := by decide +kernel
theorem q_W_spentIn_63 : decode m_W_spentIn.2.1 63 = .ok (.istore 5, 2) := by decide +kernel
theorem q_W_spentIn_65 : decode m_W_spentIn.2.1 65 = .ok (.iinc 6 1, 3) := by decide +kernel
theorem q_W_spentIn_68 : decode m_W_spentIn.2.1 68 = .ok (.goto (-60), 3) := by decide +kernel
theorem q_W_spentIn_71 : decode m_W_spentIn.2.1 71 = .ok (.lconst 0, 1) := by decide +kernel
theorem q_W_spentIn_72 : decode m_W_spentIn.2.1 72 = .ok (.lload_n 3, 1) := by decide +kernel
theorem q_W_spentIn_73 : decode m_W_spentIn.2.1 73 = .ok (.invokestatic 69, 3) := by decide +kernel
theorem q_W_spentIn_76 : decode m_W_spentIn.2.1 76 = .ok (.lreturn, 1) := by decide +kernel
theorem q_W_isWithinBudget_0 : decode m_W_isWithinBudget.2.1 0 = .ok (.aload_n 0, 1) := by decide +kernel
theorem q_W_isWithinBudget_1 : decode m_W_isWithinBudget.2.1 1 = .ok (.iload_n 1, 1) := by decide +kernel
theorem q_W_isWithinBudget_2 : decode m_W_isWithinBudget.2.1 2 = .ok (.iload_n 2, 1) := by decide +kernel
theorem q_W_isWithinBudget_3 : decode m_W_isWithinBudget.2.1 3 = .ok (.invokevirtual 75, 3) := by decide +kernel
theorem q_W_isWithinBudget_6 : decode m_W_isWithinBudget.2.1 6 = .ok (.aload_n 0, 1) := by decide +kernel
theorem q_W_isWithinBudget_7 : decode m_W_isWithinBudget.2.1 7 = .ok (.getfield 9, 3) := by decide +kernel
theorem q_W_isWithinBudget_10 : decode m_W_isWithinBudget.2.1 10 = .ok (.iload_n 2, 1) := by decide +kernel
theorem q_W_isWithinBudget_11 : decode m_W_isWithinBudget.2.1 11 = .ok (.laload, 1) := by decide +kernel
theorem q_W_isWithinBudget_12 : decode m_W_isWithinBudget.2.1 12 = .ok (.lcmp, 1) := by decide +kernel
theorem q_W_isWithinBudget_13 : decode m_W_isWithinBudget.2.1 13 = .ok (.ifCond .gt 7, 3) := by decide +kernel
theorem q_W_isWithinBudget_16 : decode m_W_isWithinBudget.2.1 16 = .ok (.iconst 1, 1) := by decide +kernel
theorem q_W_isWithinBudget_17 : decode m_W_isWithinBudget.2.1 17 = .ok (.goto 4, 3) := by decide +kernel
theorem q_W_isWithinBudget_20 : decode m_W_isWithinBudget.2.1 20 = .ok (.iconst 0, 1) := by decide +kernel
theorem q_W_isWithinBudget_21 : decode m_W_isWithinBudget.2.1 21 = .ok (.ireturn, 1) := by decide +kernel
theorem q_W_isWithinAllBudgets_0 : decode m_W_isWithinAllBudgets.2.1 0 = .ok (.iconst 0, 1) := by decide +kernel
theorem q_W_isWithinAllBudgets_1 : decode m_W_isWithinAllBudgets.2.1 1 = .ok (.istore_n 2, 1) := by decide +kernel
theorem q_W_isWithinAllBudgets_2 : decode m_W_isWithinAllBudgets.2.1 2 = .ok (.iload_n 2, 1) := by decide +kernel
theorem q_W_isWithinAllBudgets_3 : decode m_W_isWithinAllBudgets.2.1 3 = .ok (.aload_n 0, 1) := by decide +kernel
theorem q_W_isWithinAllBudgets_4 : decode m_W_isWithinAllBudgets.2.1 4 = .ok (.getfield 48, 3) := by decide +kernel
theorem q_W_isWithinAllBudgets_7 : decode m_W_isWithinAllBudgets.2.1 7 = .ok (.if_icmp .ge 20, 3) := by decide +kernel
theorem q_W_isWithinAllBudgets_10 : decode m_W_isWithinAllBudgets.2.1 10 = .ok (.aload_n 0, 1) := by decide +kernel
theorem q_W_isWithinAllBudgets_11 : decode m_W_isWithinAllBudgets.2.1 11 = .ok (.iload_n 1, 1) := by decide +kernel
theorem q_W_isWithinAllBudgets_12 : decode m_W_isWithinAllBudgets.2.1 12 = .ok (.iload_n 2, 1) := by decide +kernel
theorem q_W_isWithinAllBudgets_13 : decode m_W_isWithinAllBudgets.2.1 13 = .ok (.invokevirtual 78, 3) := by decide +kernel
theorem q_W_isWithinAllBudgets_16 : decode m_W_isWithinAllBudgets.2.1 16 = .ok (.ifCond .ne 5, 3) := by decide +kernel
theorem q_W_isWithinAllBudgets_19 : decode m_W_isWithinAllBudgets.2.1 19 = .ok (.iconst 0, 1) := by decide +kernel
theorem q_W_isWithinAllBudgets_20 : decode m_W_isWithinAllBudgets.2.1 20 = .ok (.ireturn, 1) := by decide +kernel
theorem q_W_isWithinAllBudgets_21 : decode m_W_isWithinAllBudgets.2.1 21 = .ok (.iinc 2 1, 3) := by decide +kernel
theorem q_W_isWithinAllBudgets_24 : decode m_W_isWithinAllBudgets.2.1 24 = .ok (.goto (-22), 3) := by decide +kernel
theorem q_W_isWithinAllBudgets_27 : decode m_W_isWithinAllBudgets.2.1 27 = .ok (.iconst 1, 1) := by decide +kernel
theorem q_W_isWithinAllBudgets_28 : decode m_W_isWithinAllBudgets.2.1 28 = .ok (.ireturn, 1) := by decide +kernel
theorem q_W_isPlan_0 : decode m_W_isPlan.2.1 0 = .ok (.iconst 0, 1) := by decide +kernel
theorem q_W_isPlan_1 : decode m_W_isPlan.2.1 1 = .ok (.istore_n 2, 1) := by decide +kernel
theorem q_W_isPlan_2 : decode m_W_isPlan.2.1 2 = .ok (.iconst 0, 1) := by decide +kernel
theorem q_W_isPlan_3 : decode m_W_isPlan.2.1 3 = .ok (.istore_n 3, 1) := by decide +kernel
theorem q_W_isPlan_4 : decode m_W_isPlan.2.1 4 = .ok (.iload_n 3, 1) := by decide +kernel
theorem q_W_isPlan_5 : decode m_W_isPlan.2.1 5 = .ok (.aload_n 0, 1) := by decide +kernel
theorem q_W_isPlan_6 : decode m_W_isPlan.2.1 6 = .ok (.getfield 55, 3) := by decide +kernel
theorem q_W_isPlan_9 : decode m_W_isPlan.2.1 9 = .ok (.if_icmp .ge 43, 3) := by decide +kernel
theorem q_W_isPlan_12 : decode m_W_isPlan.2.1 12 = .ok (.iload_n 1, 1) := by decide +kernel
theorem q_W_isPlan_13 : decode m_W_isPlan.2.1 13 = .ok (.iload_n 3, 1) := by decide +kernel
theorem q_W_isPlan_14 : decode m_W_isPlan.2.1 14 = .ok (.invokestatic 58, 3) := by decide +kernel
theorem q_W_isPlan_17 : decode m_W_isPlan.2.1 17 = .ok (.ifCond .eq 29, 3) := by decide +kernel
theorem q_W_isPlan_20 : decode m_W_isPlan.2.1 20 = .ok (.iload_n 2, 1) := by decide +kernel
theorem q_W_isPlan_21 : decode m_W_isPlan.2.1 21 = .ok (.aload_n 0, 1) := by decide +kernel
theorem q_W_isPlan_22 : decode m_W_isPlan.2.1 22 = .ok (.getfield 22, 3) := by decide +kernel
theorem q_W_isPlan_25 : decode m_W_isPlan.2.1 25 = .ok (.iload_n 3, 1) := by decide +kernel
theorem q_W_isPlan_26 : decode m_W_isPlan.2.1 26 = .ok (.iaload, 1) := by decide +kernel
theorem q_W_isPlan_27 : decode m_W_isPlan.2.1 27 = .ok (.invokestatic 58, 3) := by decide +kernel
theorem q_W_isPlan_30 : decode m_W_isPlan.2.1 30 = .ok (.ifCond .eq 5, 3) := by decide +kernel
theorem q_W_isPlan_33 : decode m_W_isPlan.2.1 33 = .ok (.iconst 0, 1) := by decide +kernel
theorem q_W_isPlan_34 : decode m_W_isPlan.2.1 34 = .ok (.ireturn, 1) := by decide +kernel
theorem q_W_isPlan_35 : decode m_W_isPlan.2.1 35 = .ok (.iload_n 2, 1) := by decide +kernel
theorem q_W_isPlan_36 : decode m_W_isPlan.2.1 36 = .ok (.iconst 1, 1) := by decide +kernel
theorem q_W_isPlan_37 : decode m_W_isPlan.2.1 37 = .ok (.aload_n 0, 1) := by decide +kernel
theorem q_W_isPlan_38 : decode m_W_isPlan.2.1 38 = .ok (.getfield 22, 3) := by decide +kernel
theorem q_W_isPlan_41 : decode m_W_isPlan.2.1 41 = .ok (.iload_n 3, 1) := by decide +kernel
theorem q_W_isPlan_42 : decode m_W_isPlan.2.1 42 = .ok (.iaload, 1) := by decide +kernel
theorem q_W_isPlan_43 : decode m_W_isPlan.2.1 43 = .ok (.ishl, 1) := by decide +kernel
theorem q_W_isPlan_44 : decode m_W_isPlan.2.1 44 = .ok (.ior, 1) := by decide +kernel
theorem q_W_isPlan_45 : decode m_W_isPlan.2.1 45 = .ok (.istore_n 2, 1) := by decide +kernel
theorem q_W_isPlan_46 : decode m_W_isPlan.2.1 46 = .ok (.iinc 3 1, 3) := by decide +kernel
theorem q_W_isPlan_49 : decode m_W_isPlan.2.1 49 = .ok (.goto (-45), 3) := by decide +kernel
theorem q_W_isPlan_52 : decode m_W_isPlan.2.1 52 = .ok (.iconst 1, 1) := by decide +kernel
theorem q_W_isPlan_53 : decode m_W_isPlan.2.1 53 = .ok (.ireturn, 1) := by decide +kernel
theorem q_W_worthOfPlan_0 : decode m_W_worthOfPlan.2.1 0 = .ok (.lconst 0, 1) := by decide +kernel
theorem q_W_worthOfPlan_1 : decode m_W_worthOfPlan.2.1 1 = .ok (.lstore_n 2, 1) := by decide +kernel
theorem q_W_worthOfPlan_2 : decode m_W_worthOfPlan.2.1 2 = .ok (.iconst 0, 1) := by decide +kernel
theorem q_W_worthOfPlan_3 : decode m_W_worthOfPlan.2.1 3 = .ok (.istore 4, 2) := by decide +kernel
theorem q_W_worthOfPlan_5 : decode m_W_worthOfPlan.2.1 5 = .ok (.iload 4, 2) := by decide +kernel
theorem q_W_worthOfPlan_7 : decode m_W_worthOfPlan.2.1 7 = .ok (.aload_n 0, 1) := by decide +kernel
theorem q_W_worthOfPlan_8 : decode m_W_worthOfPlan.2.1 8 = .ok (.getfield 55, 3) := by decide +kernel
theorem q_W_worthOfPlan_11 : decode m_W_worthOfPlan.2.1 11 = .ok (.if_icmp .ge 28, 3) := by decide +kernel
theorem q_W_worthOfPlan_14 : decode m_W_worthOfPlan.2.1 14 = .ok (.iload_n 1, 1) := by decide +kernel
theorem q_W_worthOfPlan_15 : decode m_W_worthOfPlan.2.1 15 = .ok (.iload 4, 2) := by decide +kernel
theorem q_W_worthOfPlan_17 : decode m_W_worthOfPlan.2.1 17 = .ok (.invokestatic 58, 3) := by decide +kernel
theorem q_W_worthOfPlan_20 : decode m_W_worthOfPlan.2.1 20 = .ok (.ifCond .eq 13, 3) := by decide +kernel
theorem q_W_worthOfPlan_23 : decode m_W_worthOfPlan.2.1 23 = .ok (.lload_n 2, 1) := by decide +kernel
theorem q_W_worthOfPlan_24 : decode m_W_worthOfPlan.2.1 24 = .ok (.aload_n 0, 1) := by decide +kernel
theorem q_W_worthOfPlan_25 : decode m_W_worthOfPlan.2.1 25 = .ok (.getfield 31, 3) := by decide +kernel
theorem q_W_worthOfPlan_28 : decode m_W_worthOfPlan.2.1 28 = .ok (.iload 4, 2) := by decide +kernel
theorem q_W_worthOfPlan_30 : decode m_W_worthOfPlan.2.1 30 = .ok (.laload, 1) := by decide +kernel
theorem q_W_worthOfPlan_31 : decode m_W_worthOfPlan.2.1 31 = .ok (.ladd, 1) := by decide +kernel
theorem q_W_worthOfPlan_32 : decode m_W_worthOfPlan.2.1 32 = .ok (.lstore_n 2, 1) := by decide +kernel
theorem q_W_worthOfPlan_33 : decode m_W_worthOfPlan.2.1 33 = .ok (.iinc 4 1, 3) := by decide +kernel
theorem q_W_worthOfPlan_36 : decode m_W_worthOfPlan.2.1 36 = .ok (.goto (-31), 3) := by decide +kernel
theorem q_W_worthOfPlan_39 : decode m_W_worthOfPlan.2.1 39 = .ok (.lload_n 2, 1) := by decide +kernel
theorem q_W_worthOfPlan_40 : decode m_W_worthOfPlan.2.1 40 = .ok (.lreturn, 1) := by decide +kernel
theorem q_W_districtOfChoice_0 : decode m_W_districtOfChoice.2.1 0 = .ok (.aload_n 0, 1) := by decide +kernel
theorem q_W_districtOfChoice_1 : decode m_W_districtOfChoice.2.1 1 = .ok (.getfield 19, 3) := by decide +kernel
theorem q_W_districtOfChoice_4 : decode m_W_districtOfChoice.2.1 4 = .ok (.aload_n 0, 1) := by decide +kernel
theorem q_W_districtOfChoice_5 : decode m_W_districtOfChoice.2.1 5 = .ok (.getfield 22, 3) := by decide +kernel
theorem q_W_districtOfChoice_8 : decode m_W_districtOfChoice.2.1 8 = .ok (.iload_n 1, 1) := by decide +kernel
theorem q_W_districtOfChoice_9 : decode m_W_districtOfChoice.2.1 9 = .ok (.iaload, 1) := by decide +kernel
theorem q_W_districtOfChoice_10 : decode m_W_districtOfChoice.2.1 10 = .ok (.iaload, 1) := by decide +kernel
theorem q_W_districtOfChoice_11 : decode m_W_districtOfChoice.2.1 11 = .ok (.ireturn, 1) := by decide +kernel
theorem q_W_worthOfDistrict_0 : decode m_W_worthOfDistrict.2.1 0 = .ok (.lconst 0, 1) := by decide +kernel
theorem q_W_worthOfDistrict_1 : decode m_W_worthOfDistrict.2.1 1 = .ok (.lstore_n 3, 1) := by decide +kernel
theorem q_W_worthOfDistrict_2 : decode m_W_worthOfDistrict.2.1 2 = .ok (.iconst 0, 1) := by decide +kernel
theorem q_W_worthOfDistrict_3 : decode m_W_worthOfDistrict.2.1 3 = .ok (.istore 5, 2) := by decide +kernel
theorem q_W_worthOfDistrict_5 : decode m_W_worthOfDistrict.2.1 5 = .ok (.iload 5, 2) := by decide +kernel
theorem q_W_worthOfDistrict_7 : decode m_W_worthOfDistrict.2.1 7 = .ok (.aload_n 0, 1) := by decide +kernel
theorem q_W_worthOfDistrict_8 : decode m_W_worthOfDistrict.2.1 8 = .ok (.getfield 55, 3) := by decide +kernel
theorem q_W_worthOfDistrict_11 : decode m_W_worthOfDistrict.2.1 11 = .ok (.if_icmp .ge 38, 3) := by decide +kernel
theorem q_W_worthOfDistrict_14 : decode m_W_worthOfDistrict.2.1 14 = .ok (.iload_n 1, 1) := by decide +kernel
theorem q_W_worthOfDistrict_15 : decode m_W_worthOfDistrict.2.1 15 = .ok (.iload 5, 2) := by decide +kernel
theorem q_W_worthOfDistrict_17 : decode m_W_worthOfDistrict.2.1 17 = .ok (.invokestatic 58, 3) := by decide +kernel
theorem q_W_worthOfDistrict_20 : decode m_W_worthOfDistrict.2.1 20 = .ok (.ifCond .eq 23, 3) := by decide +kernel
theorem q_W_worthOfDistrict_23 : decode m_W_worthOfDistrict.2.1 23 = .ok (.aload_n 0, 1) := by decide +kernel
theorem q_W_worthOfDistrict_24 : decode m_W_worthOfDistrict.2.1 24 = .ok (.iload 5, 2) := by decide +kernel
theorem q_W_worthOfDistrict_26 : decode m_W_worthOfDistrict.2.1 26 = .ok (.invokevirtual 81, 3) := by decide +kernel
theorem q_W_worthOfDistrict_29 : decode m_W_worthOfDistrict.2.1 29 = .ok (.iload_n 2, 1) := by decide +kernel
theorem q_W_worthOfDistrict_30 : decode m_W_worthOfDistrict.2.1 30 = .ok (.if_icmp .ne 13, 3) := by decide +kernel
theorem q_W_worthOfDistrict_33 : decode m_W_worthOfDistrict.2.1 33 = .ok (.lload_n 3, 1) := by decide +kernel
theorem q_W_worthOfDistrict_34 : decode m_W_worthOfDistrict.2.1 34 = .ok (.aload_n 0, 1) := by decide +kernel
theorem q_W_worthOfDistrict_35 : decode m_W_worthOfDistrict.2.1 35 = .ok (.getfield 31, 3) := by decide +kernel
theorem q_W_worthOfDistrict_38 : decode m_W_worthOfDistrict.2.1 38 = .ok (.iload 5, 2) := by decide +kernel
theorem q_W_worthOfDistrict_40 : decode m_W_worthOfDistrict.2.1 40 = .ok (.laload, 1) := by decide +kernel
theorem q_W_worthOfDistrict_41 : decode m_W_worthOfDistrict.2.1 41 = .ok (.ladd, 1) := by decide +kernel
theorem q_W_worthOfDistrict_42 : decode m_W_worthOfDistrict.2.1 42 = .ok (.lstore_n 3, 1) := by decide +kernel
theorem q_W_worthOfDistrict_43 : decode m_W_worthOfDistrict.2.1 43 = .ok (.iinc 5 1, 3) := by decide +kernel
theorem q_W_worthOfDistrict_46 : decode m_W_worthOfDistrict.2.1 46 = .ok (.goto (-41), 3) := by decide +kernel
theorem q_W_worthOfDistrict_49 : decode m_W_worthOfDistrict.2.1 49 = .ok (.lload_n 3, 1) := by decide +kernel
theorem q_W_worthOfDistrict_50 : decode m_W_worthOfDistrict.2.1 50 = .ok (.lreturn, 1) := by decide +kernel
theorem q_W_usedDistricts_0 : decode m_W_usedDistricts.2.1 0 = .ok (.iconst 0, 1) := by decide +kernel
theorem q_W_usedDistricts_1 : decode m_W_usedDistricts.2.1 1 = .ok (.istore_n 1, 1) := by decide +kernel
theorem q_W_usedDistricts_2 : decode m_W_usedDistricts.2.1 2 = .ok (.iconst 0, 1) := by decide +kernel
theorem q_W_usedDistricts_3 : decode m_W_usedDistricts.2.1 3 = .ok (.istore_n 2, 1) := by decide +kernel
theorem q_W_usedDistricts_4 : decode m_W_usedDistricts.2.1 4 = .ok (.iload_n 2, 1) := by decide +kernel
theorem q_W_usedDistricts_5 : decode m_W_usedDistricts.2.1 5 = .ok (.aload_n 0, 1) := by decide +kernel
theorem q_W_usedDistricts_6 : decode m_W_usedDistricts.2.1 6 = .ok (.getfield 52, 3) := by decide +kernel
theorem q_W_usedDistricts_9 : decode m_W_usedDistricts.2.1 9 = .ok (.if_icmp .ge 20, 3) := by decide +kernel
theorem q_W_usedDistricts_12 : decode m_W_usedDistricts.2.1 12 = .ok (.iload_n 1, 1) := by decide +kernel
theorem q_W_usedDistricts_13 : decode m_W_usedDistricts.2.1 13 = .ok (.iconst 1, 1) := by decide +kernel
