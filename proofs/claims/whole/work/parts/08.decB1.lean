theorem q_B_isNodes_0 : decode m_B_isNodes.2.1 0 = .ok (.lload_n 0, 1) := by decide +kernel
theorem q_B_isNodes_1 : decode m_B_isNodes.2.1 1 = .ok (.lconst 1, 1) := by decide +kernel
theorem q_B_isNodes_2 : decode m_B_isNodes.2.1 2 = .ok (.lcmp, 1) := by decide +kernel
theorem q_B_isNodes_3 : decode m_B_isNodes.2.1 3 = .ok (.ifCond .lt 15, 3) := by decide +kernel
theorem q_B_isNodes_6 : decode m_B_isNodes.2.1 6 = .ok (.lload_n 0, 1) := by decide +kernel
theorem q_B_isNodes_7 : decode m_B_isNodes.2.1 7 = .ok (.ldc2_w 237, 3) := by decide +kernel
theorem q_B_isNodes_10 : decode m_B_isNodes.2.1 10 = .ok (.lcmp, 1) := by decide +kernel
theorem q_B_isNodes_11 : decode m_B_isNodes.2.1 11 = .ok (.ifCond .gt 7, 3) := by decide +kernel
theorem q_B_isNodes_14 : decode m_B_isNodes.2.1 14 = .ok (.iconst 1, 1) := by decide +kernel
theorem q_B_isNodes_15 : decode m_B_isNodes.2.1 15 = .ok (.goto 4, 3) := by decide +kernel
theorem q_B_isNodes_18 : decode m_B_isNodes.2.1 18 = .ok (.iconst 0, 1) := by decide +kernel
theorem q_B_isNodes_19 : decode m_B_isNodes.2.1 19 = .ok (.ireturn, 1) := by decide +kernel
theorem q_B_isIn_0 : decode m_B_isIn.2.1 0 = .ok (.iload_n 0, 1) := by decide +kernel
theorem q_B_isIn_1 : decode m_B_isIn.2.1 1 = .ok (.iload_n 1, 1) := by decide +kernel
theorem q_B_isIn_2 : decode m_B_isIn.2.1 2 = .ok (.ishr, 1) := by decide +kernel
theorem q_B_isIn_3 : decode m_B_isIn.2.1 3 = .ok (.iconst 1, 1) := by decide +kernel
theorem q_B_isIn_4 : decode m_B_isIn.2.1 4 = .ok (.iand, 1) := by decide +kernel
theorem q_B_isIn_5 : decode m_B_isIn.2.1 5 = .ok (.iconst 1, 1) := by decide +kernel
theorem q_B_isIn_6 : decode m_B_isIn.2.1 6 = .ok (.if_icmp .ne 7, 3) := by decide +kernel
theorem q_B_isIn_9 : decode m_B_isIn.2.1 9 = .ok (.iconst 1, 1) := by decide +kernel
theorem q_B_isIn_10 : decode m_B_isIn.2.1 10 = .ok (.goto 4, 3) := by decide +kernel
theorem q_B_isIn_13 : decode m_B_isIn.2.1 13 = .ok (.iconst 0, 1) := by decide +kernel
theorem q_B_isIn_14 : decode m_B_isIn.2.1 14 = .ok (.ireturn, 1) := by decide +kernel
theorem q_B_memberOf_0 : decode m_B_memberOf.2.1 0 = .ok (.iconst 0, 1) := by decide +kernel
theorem q_B_memberOf_1 : decode m_B_memberOf.2.1 1 = .ok (.istore_n 2, 1) := by decide +kernel
theorem q_B_memberOf_2 : decode m_B_memberOf.2.1 2 = .ok (.iconst 0, 1) := by decide +kernel
theorem q_B_memberOf_3 : decode m_B_memberOf.2.1 3 = .ok (.istore_n 3, 1) := by decide +kernel
theorem q_B_memberOf_4 : decode m_B_memberOf.2.1 4 = .ok (.iload_n 3, 1) := by decide +kernel
theorem q_B_memberOf_5 : decode m_B_memberOf.2.1 5 = .ok (.bipush 14, 2) := by decide +kernel
theorem q_B_memberOf_7 : decode m_B_memberOf.2.1 7 = .ok (.if_icmp .ge 27, 3) := by decide +kernel
theorem q_B_memberOf_10 : decode m_B_memberOf.2.1 10 = .ok (.iload_n 0, 1) := by decide +kernel
theorem q_B_memberOf_11 : decode m_B_memberOf.2.1 11 = .ok (.iload_n 3, 1) := by decide +kernel
theorem q_B_memberOf_12 : decode m_B_memberOf.2.1 12 = .ok (.invokestatic 90, 3) := by decide +kernel
theorem q_B_memberOf_15 : decode m_B_memberOf.2.1 15 = .ok (.ifCond .eq 13, 3) := by decide +kernel
theorem q_B_memberOf_18 : decode m_B_memberOf.2.1 18 = .ok (.iload_n 2, 1) := by decide +kernel
theorem q_B_memberOf_19 : decode m_B_memberOf.2.1 19 = .ok (.iload_n 1, 1) := by decide +kernel
theorem q_B_memberOf_20 : decode m_B_memberOf.2.1 20 = .ok (.if_icmp .ne 5, 3) := by decide +kernel
theorem q_B_memberOf_23 : decode m_B_memberOf.2.1 23 = .ok (.iload_n 3, 1) := by decide +kernel
theorem q_B_memberOf_24 : decode m_B_memberOf.2.1 24 = .ok (.ireturn, 1) := by decide +kernel
theorem q_B_memberOf_25 : decode m_B_memberOf.2.1 25 = .ok (.iinc 2 1, 3) := by decide +kernel
theorem q_B_memberOf_28 : decode m_B_memberOf.2.1 28 = .ok (.iinc 3 1, 3) := by decide +kernel
theorem q_B_memberOf_31 : decode m_B_memberOf.2.1 31 = .ok (.goto (-27), 3) := by decide +kernel
theorem q_B_memberOf_34 : decode m_B_memberOf.2.1 34 = .ok (.iconst (-1), 1) := by decide +kernel
theorem q_B_memberOf_35 : decode m_B_memberOf.2.1 35 = .ok (.ireturn, 1) := by decide +kernel
theorem q_B_greatestDivisor_0 : decode m_B_greatestDivisor.2.1 0 = .ok (.lload_n 0, 1) := by decide +kernel
theorem q_B_greatestDivisor_1 : decode m_B_greatestDivisor.2.1 1 = .ok (.lstore 4, 2) := by decide +kernel
theorem q_B_greatestDivisor_3 : decode m_B_greatestDivisor.2.1 3 = .ok (.lload_n 2, 1) := by decide +kernel
theorem q_B_greatestDivisor_4 : decode m_B_greatestDivisor.2.1 4 = .ok (.lstore 6, 2) := by decide +kernel
theorem q_B_greatestDivisor_6 : decode m_B_greatestDivisor.2.1 6 = .ok (.iconst 0, 1) := by decide +kernel
theorem q_B_greatestDivisor_7 : decode m_B_greatestDivisor.2.1 7 = .ok (.istore 8, 2) := by decide +kernel
theorem q_B_greatestDivisor_9 : decode m_B_greatestDivisor.2.1 9 = .ok (.iload 8, 2) := by decide +kernel
theorem q_B_greatestDivisor_11 : decode m_B_greatestDivisor.2.1 11 = .ok (.bipush 100, 2) := by decide +kernel
theorem q_B_greatestDivisor_13 : decode m_B_greatestDivisor.2.1 13 = .ok (.if_icmp .ge 31, 3) := by decide +kernel
theorem q_B_greatestDivisor_16 : decode m_B_greatestDivisor.2.1 16 = .ok (.lload 6, 2) := by decide +kernel
theorem q_B_greatestDivisor_18 : decode m_B_greatestDivisor.2.1 18 = .ok (.lconst 0, 1) := by decide +kernel
theorem q_B_greatestDivisor_19 : decode m_B_greatestDivisor.2.1 19 = .ok (.lcmp, 1) := by decide +kernel
theorem q_B_greatestDivisor_20 : decode m_B_greatestDivisor.2.1 20 = .ok (.ifCond .eq 24, 3) := by decide +kernel
theorem q_B_greatestDivisor_23 : decode m_B_greatestDivisor.2.1 23 = .ok (.lload 4, 2) := by decide +kernel
theorem q_B_greatestDivisor_25 : decode m_B_greatestDivisor.2.1 25 = .ok (.lload 6, 2) := by decide +kernel
theorem q_B_greatestDivisor_27 : decode m_B_greatestDivisor.2.1 27 = .ok (.lrem, 1) := by decide +kernel
theorem q_B_greatestDivisor_28 : decode m_B_greatestDivisor.2.1 28 = .ok (.lstore 9, 2) := by decide +kernel
theorem q_B_greatestDivisor_30 : decode m_B_greatestDivisor.2.1 30 = .ok (.lload 6, 2) := by decide +kernel
theorem q_B_greatestDivisor_32 : decode m_B_greatestDivisor.2.1 32 = .ok (.lstore 4, 2) := by decide +kernel
theorem q_B_greatestDivisor_34 : decode m_B_greatestDivisor.2.1 34 = .ok (.lload 9, 2) := by decide +kernel
theorem q_B_greatestDivisor_36 : decode m_B_greatestDivisor.2.1 36 = .ok (.lstore 6, 2) := by decide +kernel
theorem q_B_greatestDivisor_38 : decode m_B_greatestDivisor.2.1 38 = .ok (.iinc 8 1, 3) := by decide +kernel
theorem q_B_greatestDivisor_41 : decode m_B_greatestDivisor.2.1 41 = .ok (.goto (-32), 3) := by decide +kernel
theorem q_B_greatestDivisor_44 : decode m_B_greatestDivisor.2.1 44 = .ok (.lload 4, 2) := by decide +kernel
theorem q_B_greatestDivisor_46 : decode m_B_greatestDivisor.2.1 46 = .ok (.lreturn, 1) := by decide +kernel
