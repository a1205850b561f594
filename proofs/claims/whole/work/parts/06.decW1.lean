theorem q_W_usedDistricts_14 : decode m_W_usedDistricts.2.1 14 = .ok (.aload_n 0, 1) := by decide +kernel
theorem q_W_usedDistricts_15 : decode m_W_usedDistricts.2.1 15 = .ok (.getfield 19, 3) := by decide +kernel
theorem q_W_usedDistricts_18 : decode m_W_usedDistricts.2.1 18 = .ok (.iload_n 2, 1) := by decide +kernel
theorem q_W_usedDistricts_19 : decode m_W_usedDistricts.2.1 19 = .ok (.iaload, 1) := by decide +kernel
theorem q_W_usedDistricts_20 : decode m_W_usedDistricts.2.1 20 = .ok (.ishl, 1) := by decide +kernel
theorem q_W_usedDistricts_21 : decode m_W_usedDistricts.2.1 21 = .ok (.ior, 1) := by decide +kernel
theorem q_W_usedDistricts_22 : decode m_W_usedDistricts.2.1 22 = .ok (.istore_n 1, 1) := by decide +kernel
theorem q_W_usedDistricts_23 : decode m_W_usedDistricts.2.1 23 = .ok (.iinc 2 1, 3) := by decide +kernel
theorem q_W_usedDistricts_26 : decode m_W_usedDistricts.2.1 26 = .ok (.goto (-22), 3) := by decide +kernel
theorem q_W_usedDistricts_29 : decode m_W_usedDistricts.2.1 29 = .ok (.iload_n 1, 1) := by decide +kernel
theorem q_W_usedDistricts_30 : decode m_W_usedDistricts.2.1 30 = .ok (.ireturn, 1) := by decide +kernel
theorem q_W_partOf_0 : decode m_W_partOf.2.1 0 = .ok (.iconst 0, 1) := by decide +kernel
theorem q_W_partOf_1 : decode m_W_partOf.2.1 1 = .ok (.istore 4, 2) := by decide +kernel
theorem q_W_partOf_3 : decode m_W_partOf.2.1 3 = .ok (.iconst 0, 1) := by decide +kernel
theorem q_W_partOf_4 : decode m_W_partOf.2.1 4 = .ok (.istore 5, 2) := by decide +kernel
theorem q_W_partOf_6 : decode m_W_partOf.2.1 6 = .ok (.iload 5, 2) := by decide +kernel
theorem q_W_partOf_8 : decode m_W_partOf.2.1 8 = .ok (.aload_n 0, 1) := by decide +kernel
theorem q_W_partOf_9 : decode m_W_partOf.2.1 9 = .ok (.getfield 55, 3) := by decide +kernel
theorem q_W_partOf_12 : decode m_W_partOf.2.1 12 = .ok (.if_icmp .ge 48, 3) := by decide +kernel
theorem q_W_partOf_15 : decode m_W_partOf.2.1 15 = .ok (.iload_n 1, 1) := by decide +kernel
theorem q_W_partOf_16 : decode m_W_partOf.2.1 16 = .ok (.iload 5, 2) := by decide +kernel
theorem q_W_partOf_18 : decode m_W_partOf.2.1 18 = .ok (.invokestatic 58, 3) := by decide +kernel
theorem q_W_partOf_21 : decode m_W_partOf.2.1 21 = .ok (.ifCond .eq 33, 3) := by decide +kernel
theorem q_W_partOf_24 : decode m_W_partOf.2.1 24 = .ok (.aload_n 0, 1) := by decide +kernel
theorem q_W_partOf_25 : decode m_W_partOf.2.1 25 = .ok (.iload 5, 2) := by decide +kernel
theorem q_W_partOf_27 : decode m_W_partOf.2.1 27 = .ok (.invokevirtual 81, 3) := by decide +kernel
theorem q_W_partOf_30 : decode m_W_partOf.2.1 30 = .ok (.iload_n 2, 1) := by decide +kernel
theorem q_W_partOf_31 : decode m_W_partOf.2.1 31 = .ok (.if_icmp .ne 23, 3) := by decide +kernel
theorem q_W_partOf_34 : decode m_W_partOf.2.1 34 = .ok (.aload_n 0, 1) := by decide +kernel
theorem q_W_partOf_35 : decode m_W_partOf.2.1 35 = .ok (.getfield 25, 3) := by decide +kernel
theorem q_W_partOf_38 : decode m_W_partOf.2.1 38 = .ok (.iload 5, 2) := by decide +kernel
theorem q_W_partOf_40 : decode m_W_partOf.2.1 40 = .ok (.iaload, 1) := by decide +kernel
theorem q_W_partOf_41 : decode m_W_partOf.2.1 41 = .ok (.iload_n 3, 1) := by decide +kernel
theorem q_W_partOf_42 : decode m_W_partOf.2.1 42 = .ok (.if_icmp .ne 12, 3) := by decide +kernel
theorem q_W_partOf_45 : decode m_W_partOf.2.1 45 = .ok (.iload 4, 2) := by decide +kernel
theorem q_W_partOf_47 : decode m_W_partOf.2.1 47 = .ok (.iconst 1, 1) := by decide +kernel
theorem q_W_partOf_48 : decode m_W_partOf.2.1 48 = .ok (.iload 5, 2) := by decide +kernel
theorem q_W_partOf_50 : decode m_W_partOf.2.1 50 = .ok (.ishl, 1) := by decide +kernel
theorem q_W_partOf_51 : decode m_W_partOf.2.1 51 = .ok (.ior, 1) := by decide +kernel
theorem q_W_partOf_52 : decode m_W_partOf.2.1 52 = .ok (.istore 4, 2) := by decide +kernel
theorem q_W_partOf_54 : decode m_W_partOf.2.1 54 = .ok (.iinc 5 1, 3) := by decide +kernel
theorem q_W_partOf_57 : decode m_W_partOf.2.1 57 = .ok (.goto (-51), 3) := by decide +kernel
theorem q_W_partOf_60 : decode m_W_partOf.2.1 60 = .ok (.iload 4, 2) := by decide +kernel
theorem q_W_partOf_62 : decode m_W_partOf.2.1 62 = .ok (.ireturn, 1) := by decide +kernel
theorem q_W_isDoneBy_0 : decode m_W_isDoneBy.2.1 0 = .ok (.iconst 0, 1) := by decide +kernel
theorem q_W_isDoneBy_1 : decode m_W_isDoneBy.2.1 1 = .ok (.istore 4, 2) := by decide +kernel
theorem q_W_isDoneBy_3 : decode m_W_isDoneBy.2.1 3 = .ok (.iload 4, 2) := by decide +kernel
theorem q_W_isDoneBy_5 : decode m_W_isDoneBy.2.1 5 = .ok (.aload_n 0, 1) := by decide +kernel
theorem q_W_isDoneBy_6 : decode m_W_isDoneBy.2.1 6 = .ok (.getfield 55, 3) := by decide +kernel
theorem q_W_isDoneBy_9 : decode m_W_isDoneBy.2.1 9 = .ok (.if_icmp .ge 42, 3) := by decide +kernel
theorem q_W_isDoneBy_12 : decode m_W_isDoneBy.2.1 12 = .ok (.iload_n 1, 1) := by decide +kernel
theorem q_W_isDoneBy_13 : decode m_W_isDoneBy.2.1 13 = .ok (.iload 4, 2) := by decide +kernel
theorem q_W_isDoneBy_15 : decode m_W_isDoneBy.2.1 15 = .ok (.invokestatic 58, 3) := by decide +kernel
theorem q_W_isDoneBy_18 : decode m_W_isDoneBy.2.1 18 = .ok (.ifCond .eq 27, 3) := by decide +kernel
theorem q_W_isDoneBy_21 : decode m_W_isDoneBy.2.1 21 = .ok (.aload_n 0, 1) := by decide +kernel
theorem q_W_isDoneBy_22 : decode m_W_isDoneBy.2.1 22 = .ok (.getfield 22, 3) := by decide +kernel
theorem q_W_isDoneBy_25 : decode m_W_isDoneBy.2.1 25 = .ok (.iload 4, 2) := by decide +kernel
theorem q_W_isDoneBy_27 : decode m_W_isDoneBy.2.1 27 = .ok (.iaload, 1) := by decide +kernel
theorem q_W_isDoneBy_28 : decode m_W_isDoneBy.2.1 28 = .ok (.iload_n 2, 1) := by decide +kernel
theorem q_W_isDoneBy_29 : decode m_W_isDoneBy.2.1 29 = .ok (.if_icmp .ne 16, 3) := by decide +kernel
theorem q_W_isDoneBy_32 : decode m_W_isDoneBy.2.1 32 = .ok (.aload_n 0, 1) := by decide +kernel
theorem q_W_isDoneBy_33 : decode m_W_isDoneBy.2.1 33 = .ok (.getfield 25, 3) := by decide +kernel
theorem q_W_isDoneBy_36 : decode m_W_isDoneBy.2.1 36 = .ok (.iload 4, 2) := by decide +kernel
theorem q_W_isDoneBy_38 : decode m_W_isDoneBy.2.1 38 = .ok (.iaload, 1) := by decide +kernel
theorem q_W_isDoneBy_39 : decode m_W_isDoneBy.2.1 39 = .ok (.iload_n 3, 1) := by decide +kernel
theorem q_W_isDoneBy_40 : decode m_W_isDoneBy.2.1 40 = .ok (.if_icmp .gt 5, 3) := by decide +kernel
theorem q_W_isDoneBy_43 : decode m_W_isDoneBy.2.1 43 = .ok (.iconst 1, 1) := by decide +kernel
theorem q_W_isDoneBy_44 : decode m_W_isDoneBy.2.1 44 = .ok (.ireturn, 1) := by decide +kernel
theorem q_W_isDoneBy_45 : decode m_W_isDoneBy.2.1 45 = .ok (.iinc 4 1, 3) := by decide +kernel
theorem q_W_isDoneBy_48 : decode m_W_isDoneBy.2.1 48 = .ok (.goto (-45), 3) := by decide +kernel
theorem q_W_isDoneBy_51 : decode m_W_isDoneBy.2.1 51 = .ok (.iconst 0, 1) := by decide +kernel
theorem q_W_isDoneBy_52 : decode m_W_isDoneBy.2.1 52 = .ok (.ireturn, 1) := by decide +kernel
theorem q_W_mostWorthBy_0 : decode m_W_mostWorthBy.2.1 0 = .ok (.lconst 0, 1) := by decide +kernel
theorem q_W_mostWorthBy_1 : decode m_W_mostWorthBy.2.1 1 = .ok (.lstore_n 3, 1) := by decide +kernel
theorem q_W_mostWorthBy_2 : decode m_W_mostWorthBy.2.1 2 = .ok (.iconst 0, 1) := by decide +kernel
theorem q_W_mostWorthBy_3 : decode m_W_mostWorthBy.2.1 3 = .ok (.istore 5, 2) := by decide +kernel
theorem q_W_mostWorthBy_5 : decode m_W_mostWorthBy.2.1 5 = .ok (.iload 5, 2) := by decide +kernel
theorem q_W_mostWorthBy_7 : decode m_W_mostWorthBy.2.1 7 = .ok (.aload_n 0, 1) := by decide +kernel
theorem q_W_mostWorthBy_8 : decode m_W_mostWorthBy.2.1 8 = .ok (.getfield 55, 3) := by decide +kernel
theorem q_W_mostWorthBy_11 : decode m_W_mostWorthBy.2.1 11 = .ok (.if_icmp .ge 43, 3) := by decide +kernel
theorem q_W_mostWorthBy_14 : decode m_W_mostWorthBy.2.1 14 = .ok (.aload_n 0, 1) := by decide +kernel
theorem q_W_mostWorthBy_15 : decode m_W_mostWorthBy.2.1 15 = .ok (.getfield 22, 3) := by decide +kernel
theorem q_W_mostWorthBy_18 : decode m_W_mostWorthBy.2.1 18 = .ok (.iload 5, 2) := by decide +kernel
theorem q_W_mostWorthBy_20 : decode m_W_mostWorthBy.2.1 20 = .ok (.iaload, 1) := by decide +kernel
theorem q_W_mostWorthBy_21 : decode m_W_mostWorthBy.2.1 21 = .ok (.iload_n 1, 1) := by decide +kernel
theorem q_W_mostWorthBy_22 : decode m_W_mostWorthBy.2.1 22 = .ok (.if_icmp .ne 26, 3) := by decide +kernel
theorem q_W_mostWorthBy_25 : decode m_W_mostWorthBy.2.1 25 = .ok (.aload_n 0, 1) := by decide +kernel
theorem q_W_mostWorthBy_26 : decode m_W_mostWorthBy.2.1 26 = .ok (.getfield 25, 3) := by decide +kernel
theorem q_W_mostWorthBy_29 : decode m_W_mostWorthBy.2.1 29 = .ok (.iload 5, 2) := by decide +kernel
theorem q_W_mostWorthBy_31 : decode m_W_mostWorthBy.2.1 31 = .ok (.iaload, 1) := by decide +kernel
theorem q_W_mostWorthBy_32 : decode m_W_mostWorthBy.2.1 32 = .ok (.iload_n 2, 1) := by decide +kernel
theorem q_W_mostWorthBy_33 : decode m_W_mostWorthBy.2.1 33 = .ok (.if_icmp .gt 15, 3) := by decide +kernel
theorem q_W_mostWorthBy_36 : decode m_W_mostWorthBy.2.1 36 = .ok (.lload_n 3, 1) := by decide +kernel
theorem q_W_mostWorthBy_37 : decode m_W_mostWorthBy.2.1 37 = .ok (.aload_n 0, 1) := by decide +kernel
theorem q_W_mostWorthBy_38 : decode m_W_mostWorthBy.2.1 38 = .ok (.getfield 31, 3) := by decide +kernel
theorem q_W_mostWorthBy_41 : decode m_W_mostWorthBy.2.1 41 = .ok (.iload 5, 2) := by decide +kernel
theorem q_W_mostWorthBy_43 : decode m_W_mostWorthBy.2.1 43 = .ok (.laload, 1) := by decide +kernel
theorem q_W_mostWorthBy_44 : decode m_W_mostWorthBy.2.1 44 = .ok (.invokestatic 69, 3) := by decide +kernel
theorem q_W_mostWorthBy_47 : decode m_W_mostWorthBy.2.1 47 = .ok (.lstore_n 3, 1) := by decide +kernel
theorem q_W_mostWorthBy_48 : decode m_W_mostWorthBy.2.1 48 = .ok (.iinc 5 1, 3) := by decide +kernel
theorem q_W_mostWorthBy_51 : decode m_W_mostWorthBy.2.1 51 = .ok (.goto (-46), 3) := by decide +kernel
theorem q_W_mostWorthBy_54 : decode m_W_mostWorthBy.2.1 54 = .ok (.lload_n 3, 1) := by decide +kernel
theorem q_W_mostWorthBy_55 : decode m_W_mostWorthBy.2.1 55 = .ok (.lreturn, 1) := by decide +kernel
theorem q_W_mostWorth_0 : decode m_W_mostWorth.2.1 0 = .ok (.aload_n 0, 1) := by decide +kernel
theorem q_W_mostWorth_1 : decode m_W_mostWorth.2.1 1 = .ok (.iload_n 1, 1) := by decide +kernel
theorem q_W_mostWorth_2 : decode m_W_mostWorth.2.1 2 = .ok (.aload_n 0, 1) := by decide +kernel
theorem q_W_mostWorth_3 : decode m_W_mostWorth.2.1 3 = .ok (.getfield 48, 3) := by decide +kernel
theorem q_W_mostWorth_6 : decode m_W_mostWorth.2.1 6 = .ok (.iconst 1, 1) := by decide +kernel
theorem q_W_mostWorth_7 : decode m_W_mostWorth.2.1 7 = .ok (.isub, 1) := by decide +kernel
theorem q_W_mostWorth_8 : decode m_W_mostWorth.2.1 8 = .ok (.invokevirtual 85, 3) := by decide +kernel
theorem q_W_mostWorth_11 : decode m_W_mostWorth.2.1 11 = .ok (.lreturn, 1) := by decide +kernel
theorem q_W_ranksBefore_0 : decode m_W_ranksBefore.2.1 0 = .ok (.aload_n 0, 1) := by decide +kernel
theorem q_W_ranksBefore_1 : decode m_W_ranksBefore.2.1 1 = .ok (.iload_n 1, 1) := by decide +kernel
theorem q_W_ranksBefore_2 : decode m_W_ranksBefore.2.1 2 = .ok (.invokevirtual 88, 3) := by decide +kernel
theorem q_W_ranksBefore_5 : decode m_W_ranksBefore.2.1 5 = .ok (.lstore_n 3, 1) := by decide +kernel
theorem q_W_ranksBefore_6 : decode m_W_ranksBefore.2.1 6 = .ok (.aload_n 0, 1) := by decide +kernel
theorem q_W_ranksBefore_7 : decode m_W_ranksBefore.2.1 7 = .ok (.iload_n 2, 1) := by decide +kernel
theorem q_W_ranksBefore_8 : decode m_W_ranksBefore.2.1 8 = .ok (.invokevirtual 88, 3) := by decide +kernel
theorem q_W_ranksBefore_11 : decode m_W_ranksBefore.2.1 11 = .ok (.lstore 5, 2) := by decide +kernel
theorem q_W_ranksBefore_13 : decode m_W_ranksBefore.2.1 13 = .ok (.lload_n 3, 1) := by decide +kernel
theorem q_W_ranksBefore_14 : decode m_W_ranksBefore.2.1 14 = .ok (.lload 5, 2) := by decide +kernel
theorem q_W_ranksBefore_16 : decode m_W_ranksBefore.2.1 16 = .ok (.lcmp, 1) := by decide +kernel
theorem q_W_ranksBefore_17 : decode m_W_ranksBefore.2.1 17 = .ok (.ifCond .eq 16, 3) := by decide +kernel
theorem q_W_ranksBefore_20 : decode m_W_ranksBefore.2.1 20 = .ok (.lload_n 3, 1) := by decide +kernel
theorem q_W_ranksBefore_21 : decode m_W_ranksBefore.2.1 21 = .ok (.lload 5, 2) := by decide +kernel
theorem q_W_ranksBefore_23 : decode m_W_ranksBefore.2.1 23 = .ok (.lcmp, 1) := by decide +kernel
theorem q_W_ranksBefore_24 : decode m_W_ranksBefore.2.1 24 = .ok (.ifCond .le 7, 3) := by decide +kernel
theorem q_W_ranksBefore_27 : decode m_W_ranksBefore.2.1 27 = .ok (.iconst 1, 1) := by decide +kernel
theorem q_W_ranksBefore_28 : decode m_W_ranksBefore.2.1 28 = .ok (.goto 4, 3) := by decide +kernel
theorem q_W_ranksBefore_31 : decode m_W_ranksBefore.2.1 31 = .ok (.iconst 0, 1) := by decide +kernel
theorem q_W_ranksBefore_32 : decode m_W_ranksBefore.2.1 32 = .ok (.ireturn, 1) := by decide +kernel
theorem q_W_ranksBefore_33 : decode m_W_ranksBefore.2.1 33 = .ok (.aload_n 0, 1) := by decide +kernel
theorem q_W_ranksBefore_34 : decode m_W_ranksBefore.2.1 34 = .ok (.getfield 15, 3) := by decide +kernel
theorem q_W_ranksBefore_37 : decode m_W_ranksBefore.2.1 37 = .ok (.iload_n 1, 1) := by decide +kernel
theorem q_W_ranksBefore_38 : decode m_W_ranksBefore.2.1 38 = .ok (.iaload, 1) := by decide +kernel
theorem q_W_ranksBefore_39 : decode m_W_ranksBefore.2.1 39 = .ok (.aload_n 0, 1) := by decide +kernel
theorem q_W_ranksBefore_40 : decode m_W_ranksBefore.2.1 40 = .ok (.getfield 15, 3) := by decide +kernel
theorem q_W_ranksBefore_43 : decode m_W_ranksBefore.2.1 43 = .ok (.iload_n 2, 1) := by decide +kernel
theorem q_W_ranksBefore_44 : decode m_W_ranksBefore.2.1 44 = .ok (.iaload, 1) := by decide +kernel
theorem q_W_ranksBefore_45 : decode m_W_ranksBefore.2.1 45 = .ok (.if_icmp .eq 26, 3) := by decide +kernel
theorem q_W_ranksBefore_48 : decode m_W_ranksBefore.2.1 48 = .ok (.aload_n 0, 1) := by decide +kernel
theorem q_W_ranksBefore_49 : decode m_W_ranksBefore.2.1 49 = .ok (.getfield 15, 3) := by decide +kernel
theorem q_W_ranksBefore_52 : decode m_W_ranksBefore.2.1 52 = .ok (.iload_n 1, 1) := by decide +kernel
theorem q_W_ranksBefore_53 : decode m_W_ranksBefore.2.1 53 = .ok (.iaload, 1) := by decide +kernel
theorem q_W_ranksBefore_54 : decode m_W_ranksBefore.2.1 54 = .ok (.aload_n 0, 1) := by decide +kernel
theorem q_W_ranksBefore_55 : decode m_W_ranksBefore.2.1 55 = .ok (.getfield 15, 3) := by decide +kernel
theorem q_W_ranksBefore_58 : decode m_W_ranksBefore.2.1 58 = .ok (.iload_n 2, 1) := by decide +kernel
theorem q_W_ranksBefore_59 : decode m_W_ranksBefore.2.1 59 = .ok (.iaload, 1) := by decide +kernel
theorem q_W_ranksBefore_60 : decode m_W_ranksBefore.2.1 60 = .ok (.if_icmp .ge 7, 3) := by decide +kernel
theorem q_W_ranksBefore_63 : decode m_W_ranksBefore.2.1 63 = .ok (.iconst 1, 1) := by decide +kernel
theorem q_W_ranksBefore_64 : decode m_W_ranksBefore.2.1 64 = .ok (.goto 17, 3) := by decide +kernel
theorem q_W_ranksBefore_67 : decode m_W_ranksBefore.2.1 67 = .ok (.iconst 0, 1) := by decide +kernel
theorem q_W_ranksBefore_68 : decode m_W_ranksBefore.2.1 68 = .ok (.goto 13, 3) := by decide +kernel
theorem q_W_ranksBefore_71 : decode m_W_ranksBefore.2.1 71 = .ok (.iload_n 1, 1) := by decide +kernel
theorem q_W_ranksBefore_72 : decode m_W_ranksBefore.2.1 72 = .ok (.iload_n 2, 1) := by decide +kernel
theorem q_W_ranksBefore_73 : decode m_W_ranksBefore.2.1 73 = .ok (.if_icmp .ge 7, 3) := by decide +kernel
theorem q_W_ranksBefore_76 : decode m_W_ranksBefore.2.1 76 = .ok (.iconst 1, 1) := by decide +kernel
theorem q_W_ranksBefore_77 : decode m_W_ranksBefore.2.1 77 = .ok (.goto 4, 3) := by decide +kernel
theorem q_W_ranksBefore_80 : decode m_W_ranksBefore.2.1 80 = .ok (.iconst 0, 1) := by decide +kernel
theorem q_W_ranksBefore_81 : decode m_W_ranksBefore.2.1 81 = .ok (.ireturn, 1) := by decide +kernel
theorem q_JI_bitCount_0 : decode m_JI_bitCount.2.1 0 = .ok (.iload_n 0, 1) := by decide +kernel
theorem q_JI_bitCount_1 : decode m_JI_bitCount.2.1 1 = .ok (.iload_n 0, 1) := by decide +kernel
theorem q_JI_bitCount_2 : decode m_JI_bitCount.2.1 2 = .ok (.iconst 1, 1) := by decide +kernel
theorem q_JI_bitCount_3 : decode m_JI_bitCount.2.1 3 = .ok (.iushr, 1) := by decide +kernel
theorem q_JI_bitCount_4 : decode m_JI_bitCount.2.1 4 = .ok (.ldc_w 265, 3) := by decide +kernel
theorem q_JI_bitCount_7 : decode m_JI_bitCount.2.1 7 = .ok (.iand, 1) := by decide +kernel
theorem q_JI_bitCount_8 : decode m_JI_bitCount.2.1 8 = .ok (.isub, 1) := by decide +kernel
theorem q_JI_bitCount_9 : decode m_JI_bitCount.2.1 9 = .ok (.istore_n 0, 1) := by decide +kernel
theorem q_JI_bitCount_10 : decode m_JI_bitCount.2.1 10 = .ok (.iload_n 0, 1) := by decide +kernel
theorem q_JI_bitCount_11 : decode m_JI_bitCount.2.1 11 = .ok (.ldc_w 266, 3) := by decide +kernel
theorem q_JI_bitCount_14 : decode m_JI_bitCount.2.1 14 = .ok (.iand, 1) := by decide +kernel
theorem q_JI_bitCount_15 : decode m_JI_bitCount.2.1 15 = .ok (.iload_n 0, 1) := by decide +kernel
theorem q_JI_bitCount_16 : decode m_JI_bitCount.2.1 16 = .ok (.iconst 2, 1) := by decide +kernel
theorem q_JI_bitCount_17 : decode m_JI_bitCount.2.1 17 = .ok (.iushr, 1) := by decide +kernel
theorem q_JI_bitCount_18 : decode m_JI_bitCount.2.1 18 = .ok (.ldc_w 266, 3) := by decide +kernel
theorem q_JI_bitCount_21 : decode m_JI_bitCount.2.1 21 = .ok (.iand, 1) := by decide +kernel
theorem q_JI_bitCount_22 : decode m_JI_bitCount.2.1 22 = .ok (.iadd, 1) := by decide +kernel
theorem q_JI_bitCount_23 : decode m_JI_bitCount.2.1 23 = .ok (.istore_n 0, 1) := by decide +kernel
theorem q_JI_bitCount_24 : decode m_JI_bitCount.2.1 24 = .ok (.iload_n 0, 1) := by decide +kernel
theorem q_JI_bitCount_25 : decode m_JI_bitCount.2.1 25 = .ok (.iload_n 0, 1) := by decide +kernel
theorem q_JI_bitCount_26 : decode m_JI_bitCount.2.1 26 = .ok (.iconst 4, 1) := by decide +kernel
theorem q_JI_bitCount_27 : decode m_JI_bitCount.2.1 27 = .ok (.iushr, 1) := by decide +kernel
theorem q_JI_bitCount_28 : decode m_JI_bitCount.2.1 28 = .ok (.iadd, 1) := by decide +kernel
theorem q_JI_bitCount_29 : decode m_JI_bitCount.2.1 29 = .ok (.ldc_w 267, 3) := by decide +kernel
theorem q_JI_bitCount_32 : decode m_JI_bitCount.2.1 32 = .ok (.iand, 1) := by decide +kernel
theorem q_JI_bitCount_33 : decode m_JI_bitCount.2.1 33 = .ok (.istore_n 0, 1) := by decide +kernel
theorem q_JI_bitCount_34 : decode m_JI_bitCount.2.1 34 = .ok (.iload_n 0, 1) := by decide +kernel
theorem q_JI_bitCount_35 : decode m_JI_bitCount.2.1 35 = .ok (.iload_n 0, 1) := by decide +kernel
theorem q_JI_bitCount_36 : decode m_JI_bitCount.2.1 36 = .ok (.bipush 8, 2) := by decide +kernel
theorem q_JI_bitCount_38 : decode m_JI_bitCount.2.1 38 = .ok (.iushr, 1) := by decide +kernel
theorem q_JI_bitCount_39 : decode m_JI_bitCount.2.1 39 = .ok (.iadd, 1) := by decide +kernel
theorem q_JI_bitCount_40 : decode m_JI_bitCount.2.1 40 = .ok (.istore_n 0, 1) := by decide +kernel
theorem q_JI_bitCount_41 : decode m_JI_bitCount.2.1 41 = .ok (.iload_n 0, 1) := by decide +kernel
theorem q_JI_bitCount_42 : decode m_JI_bitCount.2.1 42 = .ok (.iload_n 0, 1) := by decide +kernel
theorem q_JI_bitCount_43 : decode m_JI_bitCount.2.1 43 = .ok (.bipush 16, 2) := by decide +kernel
theorem q_JI_bitCount_45 : decode m_JI_bitCount.2.1 45 = .ok (.iushr, 1) := by decide +kernel
theorem q_JI_bitCount_46 : decode m_JI_bitCount.2.1 46 = .ok (.iadd, 1) := by decide +kernel
theorem q_JI_bitCount_47 : decode m_JI_bitCount.2.1 47 = .ok (.istore_n 0, 1) := by decide +kernel
theorem q_JI_bitCount_48 : decode m_JI_bitCount.2.1 48 = .ok (.iload_n 0, 1) := by decide +kernel
theorem q_JI_bitCount_49 : decode m_JI_bitCount.2.1 49 = .ok (.bipush 63, 2) := by decide +kernel
theorem q_JI_bitCount_51 : decode m_JI_bitCount.2.1 51 = .ok (.iand, 1) := by decide +kernel
theorem q_JI_bitCount_52 : decode m_JI_bitCount.2.1 52 = .ok (.ireturn, 1) := by decide +kernel
theorem q_JL_compare_0 : decode m_JL_compare.2.1 0 = .ok (.lload_n 0, 1) := by decide +kernel
theorem q_JL_compare_1 : decode m_JL_compare.2.1 1 = .ok (.lload_n 2, 1) := by decide +kernel
theorem q_JL_compare_2 : decode m_JL_compare.2.1 2 = .ok (.lcmp, 1) := by decide +kernel
theorem q_JL_compare_3 : decode m_JL_compare.2.1 3 = .ok (.ifCond .ge 7, 3) := by decide +kernel
theorem q_JL_compare_6 : decode m_JL_compare.2.1 6 = .ok (.iconst (-1), 1) := by decide +kernel
theorem q_JL_compare_7 : decode m_JL_compare.2.1 7 = .ok (.goto 14, 3) := by decide +kernel
theorem q_JL_compare_10 : decode m_JL_compare.2.1 10 = .ok (.lload_n 0, 1) := by decide +kernel
theorem q_JL_compare_11 : decode m_JL_compare.2.1 11 = .ok (.lload_n 2, 1) := by decide +kernel
theorem q_JL_compare_12 : decode m_JL_compare.2.1 12 = .ok (.lcmp, 1) := by decide +kernel
theorem q_JL_compare_13 : decode m_JL_compare.2.1 13 = .ok (.ifCond .ne 7, 3) := by decide +kernel
theorem q_JL_compare_16 : decode m_JL_compare.2.1 16 = .ok (.iconst 0, 1) := by decide +kernel
theorem q_JL_compare_17 : decode m_JL_compare.2.1 17 = .ok (.goto 4, 3) := by decide +kernel
theorem q_JL_compare_20 : decode m_JL_compare.2.1 20 = .ok (.iconst 1, 1) := by decide +kernel
theorem q_JL_compare_21 : decode m_JL_compare.2.1 21 = .ok (.ireturn, 1) := by decide +kernel
theorem q_JM_max_III_0 : decode m_JM_max_III.2.1 0 = .ok (.iload_n 0, 1) := by decide +kernel
theorem q_JM_max_III_1 : decode m_JM_max_III.2.1 1 = .ok (.iload_n 1, 1) := by decide +kernel
theorem q_JM_max_III_2 : decode m_JM_max_III.2.1 2 = .ok (.if_icmp .lt 7, 3) := by decide +kernel
theorem q_JM_max_III_5 : decode m_JM_max_III.2.1 5 = .ok (.iload_n 0, 1) := by decide +kernel
theorem q_JM_max_III_6 : decode m_JM_max_III.2.1 6 = .ok (.goto 4, 3) := by decide +kernel
theorem q_JM_max_III_9 : decode m_JM_max_III.2.1 9 = .ok (.iload_n 1, 1) := by decide +kernel
theorem q_JM_max_III_10 : decode m_JM_max_III.2.1 10 = .ok (.ireturn, 1) := by decide +kernel
theorem q_JM_max_JJJ_0 : decode m_JM_max_JJJ.2.1 0 = .ok (.lload_n 0, 1) := by decide +kernel
theorem q_JM_max_JJJ_1 : decode m_JM_max_JJJ.2.1 1 = .ok (.lload_n 2, 1) := by decide +kernel
theorem q_JM_max_JJJ_2 : decode m_JM_max_JJJ.2.1 2 = .ok (.lcmp, 1) := by decide +kernel
theorem q_JM_max_JJJ_3 : decode m_JM_max_JJJ.2.1 3 = .ok (.ifCond .lt 7, 3) := by decide +kernel
theorem q_JM_max_JJJ_6 : decode m_JM_max_JJJ.2.1 6 = .ok (.lload_n 0, 1) := by decide +kernel
theorem q_JM_max_JJJ_7 : decode m_JM_max_JJJ.2.1 7 = .ok (.goto 4, 3) := by decide +kernel
theorem q_JM_max_JJJ_10 : decode m_JM_max_JJJ.2.1 10 = .ok (.lload_n 2, 1) := by decide +kernel
theorem q_JM_max_JJJ_11 : decode m_JM_max_JJJ.2.1 11 = .ok (.lreturn, 1) := by decide +kernel
theorem q_JM_min_III_0 : decode m_JM_min_III.2.1 0 = .ok (.iload_n 0, 1) := by decide +kernel
theorem q_JM_min_III_1 : decode m_JM_min_III.2.1 1 = .ok (.iload_n 1, 1) := by decide +kernel
theorem q_JM_min_III_2 : decode m_JM_min_III.2.1 2 = .ok (.if_icmp .gt 7, 3) := by decide +kernel
theorem q_JM_min_III_5 : decode m_JM_min_III.2.1 5 = .ok (.iload_n 0, 1) := by decide +kernel
theorem q_JM_min_III_6 : decode m_JM_min_III.2.1 6 = .ok (.goto 4, 3) := by decide +kernel
theorem q_JM_min_III_9 : decode m_JM_min_III.2.1 9 = .ok (.iload_n 1, 1) := by decide +kernel
theorem q_JM_min_III_10 : decode m_JM_min_III.2.1 10 = .ok (.ireturn, 1) := by decide +kernel
theorem q_JM_min_JJJ_0 : decode m_JM_min_JJJ.2.1 0 = .ok (.lload_n 0, 1) := by decide +kernel
theorem q_JM_min_JJJ_1 : decode m_JM_min_JJJ.2.1 1 = .ok (.lload_n 2, 1) := by decide +kernel
theorem q_JM_min_JJJ_2 : decode m_JM_min_JJJ.2.1 2 = .ok (.lcmp, 1) := by decide +kernel
theorem q_JM_min_JJJ_3 : decode m_JM_min_JJJ.2.1 3 = .ok (.ifCond .gt 7, 3) := by decide +kernel
theorem q_JM_min_JJJ_6 : decode m_JM_min_JJJ.2.1 6 = .ok (.lload_n 0, 1) := by decide +kernel
theorem q_JM_min_JJJ_7 : decode m_JM_min_JJJ.2.1 7 = .ok (.goto 4, 3) := by decide +kernel
theorem q_JM_min_JJJ_10 : decode m_JM_min_JJJ.2.1 10 = .ok (.lload_n 2, 1) := by decide +kernel
theorem q_JM_min_JJJ_11 : decode m_JM_min_JJJ.2.1 11 = .ok (.lreturn, 1) := by decide +kernel
