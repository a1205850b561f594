theorem q_M_yearsOf_12 : decode m_M_yearsOf.2.1 12 = .ok (.iload_n 2, 1) := by decide +kernel
theorem q_M_yearsOf_13 : decode m_M_yearsOf.2.1 13 = .ok (.iload_n 1, 1) := by decide +kernel
theorem q_M_yearsOf_14 : decode m_M_yearsOf.2.1 14 = .ok (.iload_n 3, 1) := by decide +kernel
theorem q_M_yearsOf_15 : decode m_M_yearsOf.2.1 15 = .ok (.invokestatic 94, 3) := by decide +kernel
theorem q_M_yearsOf_18 : decode m_M_yearsOf.2.1 18 = .ok (.ifCond .eq 12, 3) := by decide +kernel
theorem q_M_yearsOf_21 : decode m_M_yearsOf.2.1 21 = .ok (.aload_n 0, 1) := by decide +kernel
theorem q_M_yearsOf_22 : decode m_M_yearsOf.2.1 22 = .ok (.getfield 19, 3) := by decide +kernel
theorem q_M_yearsOf_25 : decode m_M_yearsOf.2.1 25 = .ok (.iload_n 3, 1) := by decide +kernel
theorem q_M_yearsOf_26 : decode m_M_yearsOf.2.1 26 = .ok (.iaload, 1) := by decide +kernel
theorem q_M_yearsOf_27 : decode m_M_yearsOf.2.1 27 = .ok (.goto 4, 3) := by decide +kernel
theorem q_M_yearsOf_30 : decode m_M_yearsOf.2.1 30 = .ok (.iconst 0, 1) := by decide +kernel
theorem q_M_yearsOf_31 : decode m_M_yearsOf.2.1 31 = .ok (.iadd, 1) := by decide +kernel
theorem q_M_yearsOf_32 : decode m_M_yearsOf.2.1 32 = .ok (.istore_n 2, 1) := by decide +kernel
theorem q_M_yearsOf_33 : decode m_M_yearsOf.2.1 33 = .ok (.iinc 3 1, 3) := by decide +kernel
theorem q_M_yearsOf_36 : decode m_M_yearsOf.2.1 36 = .ok (.goto (-32), 3) := by decide +kernel
theorem q_M_yearsOf_39 : decode m_M_yearsOf.2.1 39 = .ok (.iload_n 2, 1) := by decide +kernel
theorem q_M_yearsOf_40 : decode m_M_yearsOf.2.1 40 = .ok (.ireturn, 1) := by decide +kernel
theorem q_M_isBetter_0 : decode m_M_isBetter.2.1 0 = .ok (.iload_n 2, 1) := by decide +kernel
theorem q_M_isBetter_1 : decode m_M_isBetter.2.1 1 = .ok (.iconst (-1), 1) := by decide +kernel
theorem q_M_isBetter_2 : decode m_M_isBetter.2.1 2 = .ok (.if_icmp .ne 5, 3) := by decide +kernel
theorem q_M_isBetter_5 : decode m_M_isBetter.2.1 5 = .ok (.iconst 1, 1) := by decide +kernel
theorem q_M_isBetter_6 : decode m_M_isBetter.2.1 6 = .ok (.ireturn, 1) := by decide +kernel
theorem q_M_isBetter_7 : decode m_M_isBetter.2.1 7 = .ok (.aload_n 0, 1) := by decide +kernel
theorem q_M_isBetter_8 : decode m_M_isBetter.2.1 8 = .ok (.iload_n 1, 1) := by decide +kernel
theorem q_M_isBetter_9 : decode m_M_isBetter.2.1 9 = .ok (.invokevirtual 123, 3) := by decide +kernel
theorem q_M_isBetter_12 : decode m_M_isBetter.2.1 12 = .ok (.lstore_n 3, 1) := by decide +kernel
theorem q_M_isBetter_13 : decode m_M_isBetter.2.1 13 = .ok (.aload_n 0, 1) := by decide +kernel
theorem q_M_isBetter_14 : decode m_M_isBetter.2.1 14 = .ok (.iload_n 2, 1) := by decide +kernel
theorem q_M_isBetter_15 : decode m_M_isBetter.2.1 15 = .ok (.invokevirtual 123, 3) := by decide +kernel
theorem q_M_isBetter_18 : decode m_M_isBetter.2.1 18 = .ok (.lstore 5, 2) := by decide +kernel
theorem q_M_isBetter_20 : decode m_M_isBetter.2.1 20 = .ok (.lload_n 3, 1) := by decide +kernel
theorem q_M_isBetter_21 : decode m_M_isBetter.2.1 21 = .ok (.lload 5, 2) := by decide +kernel
theorem q_M_isBetter_23 : decode m_M_isBetter.2.1 23 = .ok (.lcmp, 1) := by decide +kernel
theorem q_M_isBetter_24 : decode m_M_isBetter.2.1 24 = .ok (.ifCond .gt 23, 3) := by decide +kernel
theorem q_M_isBetter_27 : decode m_M_isBetter.2.1 27 = .ok (.lload_n 3, 1) := by decide +kernel
theorem q_M_isBetter_28 : decode m_M_isBetter.2.1 28 = .ok (.lload 5, 2) := by decide +kernel
theorem q_M_isBetter_30 : decode m_M_isBetter.2.1 30 = .ok (.lcmp, 1) := by decide +kernel
theorem q_M_isBetter_31 : decode m_M_isBetter.2.1 31 = .ok (.ifCond .ne 20, 3) := by decide +kernel
theorem q_M_isBetter_34 : decode m_M_isBetter.2.1 34 = .ok (.aload_n 0, 1) := by decide +kernel
theorem q_M_isBetter_35 : decode m_M_isBetter.2.1 35 = .ok (.iload_n 1, 1) := by decide +kernel
theorem q_M_isBetter_36 : decode m_M_isBetter.2.1 36 = .ok (.invokevirtual 127, 3) := by decide +kernel
theorem q_M_isBetter_39 : decode m_M_isBetter.2.1 39 = .ok (.aload_n 0, 1) := by decide +kernel
theorem q_M_isBetter_40 : decode m_M_isBetter.2.1 40 = .ok (.iload_n 2, 1) := by decide +kernel
theorem q_M_isBetter_41 : decode m_M_isBetter.2.1 41 = .ok (.invokevirtual 127, 3) := by decide +kernel
theorem q_M_isBetter_44 : decode m_M_isBetter.2.1 44 = .ok (.if_icmp .ge 7, 3) := by decide +kernel
theorem q_M_isBetter_47 : decode m_M_isBetter.2.1 47 = .ok (.iconst 1, 1) := by decide +kernel
theorem q_M_isBetter_48 : decode m_M_isBetter.2.1 48 = .ok (.goto 4, 3) := by decide +kernel
theorem q_M_isBetter_51 : decode m_M_isBetter.2.1 51 = .ok (.iconst 0, 1) := by decide +kernel
theorem q_M_isBetter_52 : decode m_M_isBetter.2.1 52 = .ok (.ireturn, 1) := by decide +kernel
theorem q_M_best_0 : decode m_M_best.2.1 0 = .ok (.iconst (-1), 1) := by decide +kernel
theorem q_M_best_1 : decode m_M_best.2.1 1 = .ok (.istore_n 3, 1) := by decide +kernel
theorem q_M_best_2 : decode m_M_best.2.1 2 = .ok (.iconst 0, 1) := by decide +kernel
theorem q_M_best_3 : decode m_M_best.2.1 3 = .ok (.istore 4, 2) := by decide +kernel
theorem q_M_best_5 : decode m_M_best.2.1 5 = .ok (.iload 4, 2) := by decide +kernel
theorem q_M_best_7 : decode m_M_best.2.1 7 = .ok (.i2l, 1) := by decide +kernel
theorem q_M_best_8 : decode m_M_best.2.1 8 = .ok (.lload_n 1, 1) := by decide +kernel
theorem q_M_best_9 : decode m_M_best.2.1 9 = .ok (.lcmp, 1) := by decide +kernel
theorem q_M_best_10 : decode m_M_best.2.1 10 = .ok (.ifCond .ge 54, 3) := by decide +kernel
theorem q_M_best_13 : decode m_M_best.2.1 13 = .ok (.iload 4, 2) := by decide +kernel
theorem q_M_best_15 : decode m_M_best.2.1 15 = .ok (.iconst 1, 1) := by decide +kernel
theorem q_M_best_16 : decode m_M_best.2.1 16 = .ok (.aload_n 0, 1) := by decide +kernel
theorem q_M_best_17 : decode m_M_best.2.1 17 = .ok (.getfield 84, 3) := by decide +kernel
theorem q_M_best_20 : decode m_M_best.2.1 20 = .ok (.ishl, 1) := by decide +kernel
theorem q_M_best_21 : decode m_M_best.2.1 21 = .ok (.if_icmp .ge 43, 3) := by decide +kernel
theorem q_M_best_24 : decode m_M_best.2.1 24 = .ok (.aload_n 0, 1) := by decide +kernel
theorem q_M_best_25 : decode m_M_best.2.1 25 = .ok (.iload 4, 2) := by decide +kernel
theorem q_M_best_27 : decode m_M_best.2.1 27 = .ok (.invokevirtual 131, 3) := by decide +kernel
theorem q_M_best_30 : decode m_M_best.2.1 30 = .ok (.istore 5, 2) := by decide +kernel
theorem q_M_best_32 : decode m_M_best.2.1 32 = .ok (.aload_n 0, 1) := by decide +kernel
theorem q_M_best_33 : decode m_M_best.2.1 33 = .ok (.iload 5, 2) := by decide +kernel
theorem q_M_best_35 : decode m_M_best.2.1 35 = .ok (.aload_n 0, 1) := by decide +kernel
theorem q_M_best_36 : decode m_M_best.2.1 36 = .ok (.getfield 91, 3) := by decide +kernel
theorem q_M_best_39 : decode m_M_best.2.1 39 = .ok (.invokevirtual 134, 3) := by decide +kernel
theorem q_M_best_42 : decode m_M_best.2.1 42 = .ok (.ifCond .eq 16, 3) := by decide +kernel
theorem q_M_best_45 : decode m_M_best.2.1 45 = .ok (.aload_n 0, 1) := by decide +kernel
theorem q_M_best_46 : decode m_M_best.2.1 46 = .ok (.iload 5, 2) := by decide +kernel
theorem q_M_best_48 : decode m_M_best.2.1 48 = .ok (.iload_n 3, 1) := by decide +kernel
theorem q_M_best_49 : decode m_M_best.2.1 49 = .ok (.invokevirtual 137, 3) := by decide +kernel
theorem q_M_best_52 : decode m_M_best.2.1 52 = .ok (.ifCond .eq 6, 3) := by decide +kernel
theorem q_M_best_55 : decode m_M_best.2.1 55 = .ok (.iload 5, 2) := by decide +kernel
theorem q_M_best_57 : decode m_M_best.2.1 57 = .ok (.istore_n 3, 1) := by decide +kernel
theorem q_M_best_58 : decode m_M_best.2.1 58 = .ok (.iinc 4 1, 3) := by decide +kernel
theorem q_M_best_61 : decode m_M_best.2.1 61 = .ok (.goto (-56), 3) := by decide +kernel
theorem q_M_best_64 : decode m_M_best.2.1 64 = .ok (.iload_n 3, 1) := by decide +kernel
theorem q_M_best_65 : decode m_M_best.2.1 65 = .ok (.ireturn, 1) := by decide +kernel
theorem q_M_run_0 : decode m_M_run.2.1 0 = .ok (.lload_n 1, 1) := by decide +kernel
theorem q_M_run_1 : decode m_M_run.2.1 1 = .ok (.lconst 1, 1) := by decide +kernel
theorem q_M_run_2 : decode m_M_run.2.1 2 = .ok (.ldc2_w 140, 3) := by decide +kernel
theorem q_M_run_5 : decode m_M_run.2.1 5 = .ok (.invokestatic 72, 3) := by decide +kernel
theorem q_M_run_8 : decode m_M_run.2.1 8 = .ok (.ifCond .ne 5, 3) := by decide +kernel
theorem q_M_run_11 : decode m_M_run.2.1 11 = .ok (.iconst (-1), 1) := by decide +kernel
theorem q_M_run_12 : decode m_M_run.2.1 12 = .ok (.ireturn, 1) := by decide +kernel
theorem q_M_run_13 : decode m_M_run.2.1 13 = .ok (.aload_n 0, 1) := by decide +kernel
theorem q_M_run_14 : decode m_M_run.2.1 14 = .ok (.aload_n 0, 1) := by decide +kernel
theorem q_M_run_15 : decode m_M_run.2.1 15 = .ok (.lload_n 1, 1) := by decide +kernel
theorem q_M_run_16 : decode m_M_run.2.1 16 = .ok (.invokevirtual 142, 3) := by decide +kernel
theorem q_M_run_19 : decode m_M_run.2.1 19 = .ok (.putfield 47, 3) := by decide +kernel
theorem q_M_run_22 : decode m_M_run.2.1 22 = .ok (.lload_n 1, 1) := by decide +kernel
theorem q_M_run_23 : decode m_M_run.2.1 23 = .ok (.lconst 1, 1) := by decide +kernel
theorem q_M_run_24 : decode m_M_run.2.1 24 = .ok (.aload_n 0, 1) := by decide +kernel
theorem q_M_run_25 : decode m_M_run.2.1 25 = .ok (.getfield 84, 3) := by decide +kernel
theorem q_M_run_28 : decode m_M_run.2.1 28 = .ok (.lshl, 1) := by decide +kernel
theorem q_M_run_29 : decode m_M_run.2.1 29 = .ok (.lcmp, 1) := by decide +kernel
theorem q_M_run_30 : decode m_M_run.2.1 30 = .ok (.ifCond .lt 7, 3) := by decide +kernel
theorem q_M_run_33 : decode m_M_run.2.1 33 = .ok (.iconst 1, 1) := by decide +kernel
theorem q_M_run_34 : decode m_M_run.2.1 34 = .ok (.goto 4, 3) := by decide +kernel
theorem q_M_run_37 : decode m_M_run.2.1 37 = .ok (.iconst 0, 1) := by decide +kernel
theorem q_M_run_38 : decode m_M_run.2.1 38 = .ok (.istore_n 3, 1) := by decide +kernel
theorem q_M_run_39 : decode m_M_run.2.1 39 = .ok (.aload_n 0, 1) := by decide +kernel
theorem q_M_run_40 : decode m_M_run.2.1 40 = .ok (.iload_n 3, 1) := by decide +kernel
theorem q_M_run_41 : decode m_M_run.2.1 41 = .ok (.putfield 66, 3) := by decide +kernel
theorem q_M_run_44 : decode m_M_run.2.1 44 = .ok (.iload_n 3, 1) := by decide +kernel
theorem q_M_run_45 : decode m_M_run.2.1 45 = .ok (.ifCond .ne 7, 3) := by decide +kernel
theorem q_M_run_48 : decode m_M_run.2.1 48 = .ok (.iconst 1, 1) := by decide +kernel
theorem q_M_run_49 : decode m_M_run.2.1 49 = .ok (.goto 16, 3) := by decide +kernel
theorem q_M_run_52 : decode m_M_run.2.1 52 = .ok (.aload_n 0, 1) := by decide +kernel
theorem q_M_run_53 : decode m_M_run.2.1 53 = .ok (.getfield 47, 3) := by decide +kernel
theorem q_M_run_56 : decode m_M_run.2.1 56 = .ok (.iconst (-1), 1) := by decide +kernel
theorem q_M_run_57 : decode m_M_run.2.1 57 = .ok (.if_icmp .ne 7, 3) := by decide +kernel
theorem q_M_run_60 : decode m_M_run.2.1 60 = .ok (.iconst 2, 1) := by decide +kernel
theorem q_M_run_61 : decode m_M_run.2.1 61 = .ok (.goto 4, 3) := by decide +kernel
theorem q_M_run_64 : decode m_M_run.2.1 64 = .ok (.iconst 0, 1) := by decide +kernel
theorem q_M_run_65 : decode m_M_run.2.1 65 = .ok (.ireturn, 1) := by decide +kernel
theorem q_M_chosen_0 : decode m_M_chosen.2.1 0 = .ok (.aload_n 0, 1) := by decide +kernel
theorem q_M_chosen_1 : decode m_M_chosen.2.1 1 = .ok (.iload_n 1, 1) := by decide +kernel
theorem q_M_chosen_2 : decode m_M_chosen.2.1 2 = .ok (.invokevirtual 87, 3) := by decide +kernel
theorem q_M_chosen_5 : decode m_M_chosen.2.1 5 = .ok (.ifCond .eq 26, 3) := by decide +kernel
theorem q_M_chosen_8 : decode m_M_chosen.2.1 8 = .ok (.aload_n 0, 1) := by decide +kernel
theorem q_M_chosen_9 : decode m_M_chosen.2.1 9 = .ok (.getfield 47, 3) := by decide +kernel
theorem q_M_chosen_12 : decode m_M_chosen.2.1 12 = .ok (.iconst (-1), 1) := by decide +kernel
theorem q_M_chosen_13 : decode m_M_chosen.2.1 13 = .ok (.if_icmp .eq 18, 3) := by decide +kernel
theorem q_M_chosen_16 : decode m_M_chosen.2.1 16 = .ok (.aload_n 0, 1) := by decide +kernel
theorem q_M_chosen_17 : decode m_M_chosen.2.1 17 = .ok (.getfield 47, 3) := by decide +kernel
theorem q_M_chosen_20 : decode m_M_chosen.2.1 20 = .ok (.iload_n 1, 1) := by decide +kernel
theorem q_M_chosen_21 : decode m_M_chosen.2.1 21 = .ok (.invokestatic 94, 3) := by decide +kernel
theorem q_M_chosen_24 : decode m_M_chosen.2.1 24 = .ok (.ifCond .eq 7, 3) := by decide +kernel
theorem q_M_chosen_27 : decode m_M_chosen.2.1 27 = .ok (.iconst 1, 1) := by decide +kernel
theorem q_M_chosen_28 : decode m_M_chosen.2.1 28 = .ok (.goto 4, 3) := by decide +kernel
theorem q_M_chosen_31 : decode m_M_chosen.2.1 31 = .ok (.iconst 0, 1) := by decide +kernel
theorem q_M_chosen_32 : decode m_M_chosen.2.1 32 = .ok (.ireturn, 1) := by decide +kernel
theorem q_M_worth_0 : decode m_M_worth.2.1 0 = .ok (.aload_n 0, 1) := by decide +kernel
theorem q_M_worth_1 : decode m_M_worth.2.1 1 = .ok (.getfield 47, 3) := by decide +kernel
theorem q_M_worth_4 : decode m_M_worth.2.1 4 = .ok (.iconst (-1), 1) := by decide +kernel
theorem q_M_worth_5 : decode m_M_worth.2.1 5 = .ok (.if_icmp .ne 9, 3) := by decide +kernel
theorem q_M_worth_8 : decode m_M_worth.2.1 8 = .ok (.ldc2_w 41, 3) := by decide +kernel
theorem q_M_worth_11 : decode m_M_worth.2.1 11 = .ok (.goto 11, 3) := by decide +kernel
theorem q_M_worth_14 : decode m_M_worth.2.1 14 = .ok (.aload_n 0, 1) := by decide +kernel
theorem q_M_worth_15 : decode m_M_worth.2.1 15 = .ok (.aload_n 0, 1) := by decide +kernel
theorem q_M_worth_16 : decode m_M_worth.2.1 16 = .ok (.getfield 47, 3) := by decide +kernel
theorem q_M_worth_19 : decode m_M_worth.2.1 19 = .ok (.invokevirtual 123, 3) := by decide +kernel
theorem q_M_worth_22 : decode m_M_worth.2.1 22 = .ok (.lreturn, 1) := by decide +kernel
theorem q_M_mostWorth_0 : decode m_M_mostWorth.2.1 0 = .ok (.lconst 0, 1) := by decide +kernel
theorem q_M_mostWorth_1 : decode m_M_mostWorth.2.1 1 = .ok (.lstore_n 3, 1) := by decide +kernel
theorem q_M_mostWorth_2 : decode m_M_mostWorth.2.1 2 = .ok (.iconst 0, 1) := by decide +kernel
theorem q_M_mostWorth_3 : decode m_M_mostWorth.2.1 3 = .ok (.istore 5, 2) := by decide +kernel
theorem q_M_mostWorth_5 : decode m_M_mostWorth.2.1 5 = .ok (.iload 5, 2) := by decide +kernel
theorem q_M_mostWorth_7 : decode m_M_mostWorth.2.1 7 = .ok (.aload_n 0, 1) := by decide +kernel
theorem q_M_mostWorth_8 : decode m_M_mostWorth.2.1 8 = .ok (.getfield 84, 3) := by decide +kernel
theorem q_M_mostWorth_11 : decode m_M_mostWorth.2.1 11 = .ok (.if_icmp .ge 55, 3) := by decide +kernel
theorem q_M_mostWorth_14 : decode m_M_mostWorth.2.1 14 = .ok (.aload_n 0, 1) := by decide +kernel
theorem q_M_mostWorth_15 : decode m_M_mostWorth.2.1 15 = .ok (.getfield 16, 3) := by decide +kernel
theorem q_M_mostWorth_18 : decode m_M_mostWorth.2.1 18 = .ok (.iload 5, 2) := by decide +kernel
theorem q_M_mostWorth_20 : decode m_M_mostWorth.2.1 20 = .ok (.iaload, 1) := by decide +kernel
theorem q_M_mostWorth_21 : decode m_M_mostWorth.2.1 21 = .ok (.iload_n 1, 1) := by decide +kernel
theorem q_M_mostWorth_22 : decode m_M_mostWorth.2.1 22 = .ok (.if_icmp .ne 36, 3) := by decide +kernel
theorem q_M_mostWorth_25 : decode m_M_mostWorth.2.1 25 = .ok (.aload_n 0, 1) := by decide +kernel
theorem q_M_mostWorth_26 : decode m_M_mostWorth.2.1 26 = .ok (.getfield 19, 3) := by decide +kernel
theorem q_M_mostWorth_29 : decode m_M_mostWorth.2.1 29 = .ok (.iload 5, 2) := by decide +kernel
theorem q_M_mostWorth_31 : decode m_M_mostWorth.2.1 31 = .ok (.iaload, 1) := by decide +kernel
theorem q_M_mostWorth_32 : decode m_M_mostWorth.2.1 32 = .ok (.iload_n 2, 1) := by decide +kernel
theorem q_M_mostWorth_33 : decode m_M_mostWorth.2.1 33 = .ok (.if_icmp .gt 25, 3) := by decide +kernel
theorem q_M_mostWorth_36 : decode m_M_mostWorth.2.1 36 = .ok (.aload_n 0, 1) := by decide +kernel
theorem q_M_mostWorth_37 : decode m_M_mostWorth.2.1 37 = .ok (.getfield 26, 3) := by decide +kernel
theorem q_M_mostWorth_40 : decode m_M_mostWorth.2.1 40 = .ok (.iload 5, 2) := by decide +kernel
theorem q_M_mostWorth_42 : decode m_M_mostWorth.2.1 42 = .ok (.laload, 1) := by decide +kernel
theorem q_M_mostWorth_43 : decode m_M_mostWorth.2.1 43 = .ok (.lload_n 3, 1) := by decide +kernel
theorem q_M_mostWorth_44 : decode m_M_mostWorth.2.1 44 = .ok (.lcmp, 1) := by decide +kernel
theorem q_M_mostWorth_45 : decode m_M_mostWorth.2.1 45 = .ok (.ifCond .le 13, 3) := by decide +kernel
theorem q_M_mostWorth_48 : decode m_M_mostWorth.2.1 48 = .ok (.aload_n 0, 1) := by decide +kernel
theorem q_M_mostWorth_49 : decode m_M_mostWorth.2.1 49 = .ok (.getfield 26, 3) := by decide +kernel
theorem q_M_mostWorth_52 : decode m_M_mostWorth.2.1 52 = .ok (.iload 5, 2) := by decide +kernel
theorem q_M_mostWorth_54 : decode m_M_mostWorth.2.1 54 = .ok (.laload, 1) := by decide +kernel
theorem q_M_mostWorth_55 : decode m_M_mostWorth.2.1 55 = .ok (.goto 4, 3) := by decide +kernel
theorem q_M_mostWorth_58 : decode m_M_mostWorth.2.1 58 = .ok (.lload_n 3, 1) := by decide +kernel
theorem q_M_mostWorth_59 : decode m_M_mostWorth.2.1 59 = .ok (.lstore_n 3, 1) := by decide +kernel
theorem q_M_mostWorth_60 : decode m_M_mostWorth.2.1 60 = .ok (.iinc 5 1, 3) := by decide +kernel
theorem q_M_mostWorth_63 : decode m_M_mostWorth.2.1 63 = .ok (.goto (-58), 3) := by decide +kernel
theorem q_M_mostWorth_66 : decode m_M_mostWorth.2.1 66 = .ok (.lload_n 3, 1) := by decide +kernel
theorem q_M_mostWorth_67 : decode m_M_mostWorth.2.1 67 = .ok (.lreturn, 1) := by decide +kernel
theorem q_M_savedBy_0 : decode m_M_savedBy.2.1 0 = .ok (.lconst 0, 1) := by decide +kernel
theorem q_M_savedBy_1 : decode m_M_savedBy.2.1 1 = .ok (.lstore_n 2, 1) := by decide +kernel
theorem q_M_savedBy_2 : decode m_M_savedBy.2.1 2 = .ok (.iconst 0, 1) := by decide +kernel
theorem q_M_savedBy_3 : decode m_M_savedBy.2.1 3 = .ok (.istore 4, 2) := by decide +kernel
theorem q_M_savedBy_5 : decode m_M_savedBy.2.1 5 = .ok (.iload 4, 2) := by decide +kernel
theorem q_M_savedBy_7 : decode m_M_savedBy.2.1 7 = .ok (.aload_n 0, 1) := by decide +kernel
theorem q_M_savedBy_8 : decode m_M_savedBy.2.1 8 = .ok (.getfield 103, 3) := by decide +kernel
theorem q_M_savedBy_11 : decode m_M_savedBy.2.1 11 = .ok (.if_icmp .ge 45, 3) := by decide +kernel
theorem q_M_savedBy_14 : decode m_M_savedBy.2.1 14 = .ok (.lload_n 2, 1) := by decide +kernel
theorem q_M_savedBy_15 : decode m_M_savedBy.2.1 15 = .ok (.aload_n 0, 1) := by decide +kernel
theorem q_M_savedBy_16 : decode m_M_savedBy.2.1 16 = .ok (.getfield 32, 3) := by decide +kernel
theorem q_M_savedBy_19 : decode m_M_savedBy.2.1 19 = .ok (.iload 4, 2) := by decide +kernel
theorem q_M_savedBy_21 : decode m_M_savedBy.2.1 21 = .ok (.iaload, 1) := by decide +kernel
theorem q_M_savedBy_22 : decode m_M_savedBy.2.1 22 = .ok (.iload_n 1, 1) := by decide +kernel
theorem q_M_savedBy_23 : decode m_M_savedBy.2.1 23 = .ok (.if_icmp .eq 14, 3) := by decide +kernel
theorem q_M_savedBy_26 : decode m_M_savedBy.2.1 26 = .ok (.aload_n 0, 1) := by decide +kernel
theorem q_M_savedBy_27 : decode m_M_savedBy.2.1 27 = .ok (.getfield 35, 3) := by decide +kernel
theorem q_M_savedBy_30 : decode m_M_savedBy.2.1 30 = .ok (.iload 4, 2) := by decide +kernel
theorem q_M_savedBy_32 : decode m_M_savedBy.2.1 32 = .ok (.iaload, 1) := by decide +kernel
theorem q_M_savedBy_33 : decode m_M_savedBy.2.1 33 = .ok (.iload_n 1, 1) := by decide +kernel
theorem q_M_savedBy_34 : decode m_M_savedBy.2.1 34 = .ok (.if_icmp .ne 13, 3) := by decide +kernel
theorem q_M_savedBy_37 : decode m_M_savedBy.2.1 37 = .ok (.aload_n 0, 1) := by decide +kernel
theorem q_M_savedBy_38 : decode m_M_savedBy.2.1 38 = .ok (.getfield 38, 3) := by decide +kernel
theorem q_M_savedBy_41 : decode m_M_savedBy.2.1 41 = .ok (.iload 4, 2) := by decide +kernel
theorem q_M_savedBy_43 : decode m_M_savedBy.2.1 43 = .ok (.laload, 1) := by decide +kernel
theorem q_M_savedBy_44 : decode m_M_savedBy.2.1 44 = .ok (.goto 4, 3) := by decide +kernel
theorem q_M_savedBy_47 : decode m_M_savedBy.2.1 47 = .ok (.lconst 0, 1) := by decide +kernel
theorem q_M_savedBy_48 : decode m_M_savedBy.2.1 48 = .ok (.ladd, 1) := by decide +kernel
theorem q_M_savedBy_49 : decode m_M_savedBy.2.1 49 = .ok (.lstore_n 2, 1) := by decide +kernel
theorem q_M_savedBy_50 : decode m_M_savedBy.2.1 50 = .ok (.iinc 4 1, 3) := by decide +kernel
theorem q_M_savedBy_53 : decode m_M_savedBy.2.1 53 = .ok (.goto (-48), 3) := by decide +kernel
theorem q_M_savedBy_56 : decode m_M_savedBy.2.1 56 = .ok (.lload_n 2, 1) := by decide +kernel
theorem q_M_savedBy_57 : decode m_M_savedBy.2.1 57 = .ok (.lreturn, 1) := by decide +kernel
theorem q_M_byPrice_0 : decode m_M_byPrice.2.1 0 = .ok (.lconst 0, 1) := by decide +kernel
theorem q_M_byPrice_1 : decode m_M_byPrice.2.1 1 = .ok (.lstore 5, 2) := by decide +kernel
theorem q_M_byPrice_3 : decode m_M_byPrice.2.1 3 = .ok (.iconst 0, 1) := by decide +kernel
theorem q_M_byPrice_4 : decode m_M_byPrice.2.1 4 = .ok (.istore 7, 2) := by decide +kernel
theorem q_M_byPrice_6 : decode m_M_byPrice.2.1 6 = .ok (.iload 7, 2) := by decide +kernel
theorem q_M_byPrice_8 : decode m_M_byPrice.2.1 8 = .ok (.aload_n 0, 1) := by decide +kernel
theorem q_M_byPrice_9 : decode m_M_byPrice.2.1 9 = .ok (.getfield 63, 3) := by decide +kernel
theorem q_M_byPrice_12 : decode m_M_byPrice.2.1 12 = .ok (.if_icmp .ge 23, 3) := by decide +kernel
theorem q_M_byPrice_15 : decode m_M_byPrice.2.1 15 = .ok (.lload 5, 2) := by decide +kernel
theorem q_M_byPrice_17 : decode m_M_byPrice.2.1 17 = .ok (.aload_n 0, 1) := by decide +kernel
theorem q_M_byPrice_18 : decode m_M_byPrice.2.1 18 = .ok (.getfield 29, 3) := by decide +kernel
theorem q_M_byPrice_21 : decode m_M_byPrice.2.1 21 = .ok (.iload 7, 2) := by decide +kernel
theorem q_M_byPrice_23 : decode m_M_byPrice.2.1 23 = .ok (.laload, 1) := by decide +kernel
theorem q_M_byPrice_24 : decode m_M_byPrice.2.1 24 = .ok (.lload_n 1, 1) := by decide +kernel
theorem q_M_byPrice_25 : decode m_M_byPrice.2.1 25 = .ok (.lmul, 1) := by decide +kernel
theorem q_M_byPrice_26 : decode m_M_byPrice.2.1 26 = .ok (.ladd, 1) := by decide +kernel
theorem q_M_byPrice_27 : decode m_M_byPrice.2.1 27 = .ok (.lstore 5, 2) := by decide +kernel
theorem q_M_byPrice_29 : decode m_M_byPrice.2.1 29 = .ok (.iinc 7 1, 3) := by decide +kernel
theorem q_M_byPrice_32 : decode m_M_byPrice.2.1 32 = .ok (.goto (-26), 3) := by decide +kernel
theorem q_M_byPrice_35 : decode m_M_byPrice.2.1 35 = .ok (.iconst 0, 1) := by decide +kernel
theorem q_M_byPrice_36 : decode m_M_byPrice.2.1 36 = .ok (.istore 7, 2) := by decide +kernel
theorem q_M_byPrice_38 : decode m_M_byPrice.2.1 38 = .ok (.iload 7, 2) := by decide +kernel
theorem q_M_byPrice_40 : decode m_M_byPrice.2.1 40 = .ok (.aload_n 0, 1) := by decide +kernel
theorem q_M_byPrice_41 : decode m_M_byPrice.2.1 41 = .ok (.getfield 76, 3) := by decide +kernel
theorem q_M_byPrice_44 : decode m_M_byPrice.2.1 44 = .ok (.if_icmp .ge 94, 3) := by decide +kernel
theorem q_M_byPrice_47 : decode m_M_byPrice.2.1 47 = .ok (.lconst 0, 1) := by decide +kernel
theorem q_M_byPrice_48 : decode m_M_byPrice.2.1 48 = .ok (.lstore 8, 2) := by decide +kernel
theorem q_M_byPrice_50 : decode m_M_byPrice.2.1 50 = .ok (.iconst 0, 1) := by decide +kernel
theorem q_M_byPrice_51 : decode m_M_byPrice.2.1 51 = .ok (.istore 10, 2) := by decide +kernel
theorem q_M_byPrice_53 : decode m_M_byPrice.2.1 53 = .ok (.iload 10, 2) := by decide +kernel
theorem q_M_byPrice_55 : decode m_M_byPrice.2.1 55 = .ok (.aload_n 0, 1) := by decide +kernel
theorem q_M_byPrice_56 : decode m_M_byPrice.2.1 56 = .ok (.getfield 84, 3) := by decide +kernel
theorem q_M_byPrice_59 : decode m_M_byPrice.2.1 59 = .ok (.if_icmp .ge 66, 3) := by decide +kernel
theorem q_M_byPrice_62 : decode m_M_byPrice.2.1 62 = .ok (.aload_n 0, 1) := by decide +kernel
theorem q_M_byPrice_63 : decode m_M_byPrice.2.1 63 = .ok (.getfield 26, 3) := by decide +kernel
theorem q_M_byPrice_66 : decode m_M_byPrice.2.1 66 = .ok (.iload 10, 2) := by decide +kernel
theorem q_M_byPrice_68 : decode m_M_byPrice.2.1 68 = .ok (.laload, 1) := by decide +kernel
theorem q_M_byPrice_69 : decode m_M_byPrice.2.1 69 = .ok (.lload_n 3, 1) := by decide +kernel
theorem q_M_byPrice_70 : decode m_M_byPrice.2.1 70 = .ok (.lmul, 1) := by decide +kernel
theorem q_M_byPrice_71 : decode m_M_byPrice.2.1 71 = .ok (.lload_n 1, 1) := by decide +kernel
theorem q_M_byPrice_72 : decode m_M_byPrice.2.1 72 = .ok (.aload_n 0, 1) := by decide +kernel
theorem q_M_byPrice_73 : decode m_M_byPrice.2.1 73 = .ok (.getfield 22, 3) := by decide +kernel
theorem q_M_byPrice_76 : decode m_M_byPrice.2.1 76 = .ok (.iload 10, 2) := by decide +kernel
theorem q_M_byPrice_78 : decode m_M_byPrice.2.1 78 = .ok (.laload, 1) := by decide +kernel
theorem q_M_byPrice_79 : decode m_M_byPrice.2.1 79 = .ok (.aload_n 0, 1) := by decide +kernel
theorem q_M_byPrice_80 : decode m_M_byPrice.2.1 80 = .ok (.iload 10, 2) := by decide +kernel
theorem q_M_byPrice_82 : decode m_M_byPrice.2.1 82 = .ok (.invokevirtual 146, 3) := by decide +kernel
theorem q_M_byPrice_85 : decode m_M_byPrice.2.1 85 = .ok (.lsub, 1) := by decide +kernel
theorem q_M_byPrice_86 : decode m_M_byPrice.2.1 86 = .ok (.lmul, 1) := by decide +kernel
theorem q_M_byPrice_87 : decode m_M_byPrice.2.1 87 = .ok (.lsub, 1) := by decide +kernel
theorem q_M_byPrice_88 : decode m_M_byPrice.2.1 88 = .ok (.lstore 11, 2) := by decide +kernel
theorem q_M_byPrice_90 : decode m_M_byPrice.2.1 90 = .ok (.aload_n 0, 1) := by decide +kernel
theorem q_M_byPrice_91 : decode m_M_byPrice.2.1 91 = .ok (.getfield 16, 3) := by decide +kernel
theorem q_M_byPrice_94 : decode m_M_byPrice.2.1 94 = .ok (.iload 10, 2) := by decide +kernel
theorem q_M_byPrice_96 : decode m_M_byPrice.2.1 96 = .ok (.iaload, 1) := by decide +kernel
theorem q_M_byPrice_97 : decode m_M_byPrice.2.1 97 = .ok (.iload 7, 2) := by decide +kernel
theorem q_M_byPrice_99 : decode m_M_byPrice.2.1 99 = .ok (.if_icmp .ne 16, 3) := by decide +kernel
theorem q_M_byPrice_102 : decode m_M_byPrice.2.1 102 = .ok (.lload 11, 2) := by decide +kernel
theorem q_M_byPrice_104 : decode m_M_byPrice.2.1 104 = .ok (.lload 8, 2) := by decide +kernel
theorem q_M_byPrice_106 : decode m_M_byPrice.2.1 106 = .ok (.lcmp, 1) := by decide +kernel
theorem q_M_byPrice_107 : decode m_M_byPrice.2.1 107 = .ok (.ifCond .le 8, 3) := by decide +kernel
theorem q_M_byPrice_110 : decode m_M_byPrice.2.1 110 = .ok (.lload 11, 2) := by decide +kernel
theorem q_M_byPrice_112 : decode m_M_byPrice.2.1 112 = .ok (.goto 5, 3) := by decide +kernel
theorem q_M_byPrice_115 : decode m_M_byPrice.2.1 115 = .ok (.lload 8, 2) := by decide +kernel
theorem q_M_byPrice_117 : decode m_M_byPrice.2.1 117 = .ok (.lstore 8, 2) := by decide +kernel
theorem q_M_byPrice_119 : decode m_M_byPrice.2.1 119 = .ok (.iinc 10 1, 3) := by decide +kernel
theorem q_M_byPrice_122 : decode m_M_byPrice.2.1 122 = .ok (.goto (-69), 3) := by decide +kernel
theorem q_M_byPrice_125 : decode m_M_byPrice.2.1 125 = .ok (.lload 5, 2) := by decide +kernel
theorem q_M_byPrice_127 : decode m_M_byPrice.2.1 127 = .ok (.lload 8, 2) := by decide +kernel
theorem q_M_byPrice_129 : decode m_M_byPrice.2.1 129 = .ok (.ladd, 1) := by decide +kernel
theorem q_M_byPrice_130 : decode m_M_byPrice.2.1 130 = .ok (.lstore 5, 2) := by decide +kernel
theorem q_M_byPrice_132 : decode m_M_byPrice.2.1 132 = .ok (.iinc 7 1, 3) := by decide +kernel
theorem q_M_byPrice_135 : decode m_M_byPrice.2.1 135 = .ok (.goto (-97), 3) := by decide +kernel
theorem q_M_byPrice_138 : decode m_M_byPrice.2.1 138 = .ok (.lload 5, 2) := by decide +kernel
theorem q_M_byPrice_140 : decode m_M_byPrice.2.1 140 = .ok (.lload_n 3, 1) := by decide +kernel
theorem q_M_byPrice_141 : decode m_M_byPrice.2.1 141 = .ok (.ldiv, 1) := by decide +kernel
theorem q_M_byPrice_142 : decode m_M_byPrice.2.1 142 = .ok (.lreturn, 1) := by decide +kernel
theorem q_M_bound_0 : decode m_M_bound.2.1 0 = .ok (.lconst 0, 1) := by decide +kernel
theorem q_M_bound_1 : decode m_M_bound.2.1 1 = .ok (.lstore_n 2, 1) := by decide +kernel
theorem q_M_bound_2 : decode m_M_bound.2.1 2 = .ok (.iload_n 1, 1) := by decide +kernel
theorem q_M_bound_3 : decode m_M_bound.2.1 3 = .ok (.ifCond .ne 33, 3) := by decide +kernel
theorem q_M_bound_6 : decode m_M_bound.2.1 6 = .ok (.iconst 0, 1) := by decide +kernel
theorem q_M_bound_7 : decode m_M_bound.2.1 7 = .ok (.istore 4, 2) := by decide +kernel
theorem q_M_bound_9 : decode m_M_bound.2.1 9 = .ok (.iload 4, 2) := by decide +kernel
theorem q_M_bound_11 : decode m_M_bound.2.1 11 = .ok (.aload_n 0, 1) := by decide +kernel
theorem q_M_bound_12 : decode m_M_bound.2.1 12 = .ok (.getfield 76, 3) := by decide +kernel
theorem q_M_bound_15 : decode m_M_bound.2.1 15 = .ok (.if_icmp .ge 19, 3) := by decide +kernel
theorem q_M_bound_18 : decode m_M_bound.2.1 18 = .ok (.lload_n 2, 1) := by decide +kernel
theorem q_M_bound_19 : decode m_M_bound.2.1 19 = .ok (.aload_n 0, 1) := by decide +kernel
theorem q_M_bound_20 : decode m_M_bound.2.1 20 = .ok (.iload 4, 2) := by decide +kernel
theorem q_M_bound_22 : decode m_M_bound.2.1 22 = .ok (.iconst 5, 1) := by decide +kernel
theorem q_M_bound_23 : decode m_M_bound.2.1 23 = .ok (.invokevirtual 149, 3) := by decide +kernel
theorem q_M_bound_26 : decode m_M_bound.2.1 26 = .ok (.ladd, 1) := by decide +kernel
theorem q_M_bound_27 : decode m_M_bound.2.1 27 = .ok (.lstore_n 2, 1) := by decide +kernel
theorem q_M_bound_28 : decode m_M_bound.2.1 28 = .ok (.iinc 4 1, 3) := by decide +kernel
theorem q_M_bound_31 : decode m_M_bound.2.1 31 = .ok (.goto (-22), 3) := by decide +kernel
theorem q_M_bound_34 : decode m_M_bound.2.1 34 = .ok (.lload_n 2, 1) := by decide +kernel
theorem q_M_bound_35 : decode m_M_bound.2.1 35 = .ok (.lreturn, 1) := by decide +kernel
theorem q_M_bound_36 : decode m_M_bound.2.1 36 = .ok (.iload_n 1, 1) := by decide +kernel
theorem q_M_bound_37 : decode m_M_bound.2.1 37 = .ok (.iconst 1, 1) := by decide +kernel
theorem q_M_bound_38 : decode m_M_bound.2.1 38 = .ok (.if_icmp .eq 7, 3) := by decide +kernel
theorem q_M_bound_41 : decode m_M_bound.2.1 41 = .ok (.ldc2_w 41, 3) := by decide +kernel
theorem q_M_bound_44 : decode m_M_bound.2.1 44 = .ok (.lreturn, 1) := by decide +kernel
theorem q_M_bound_45 : decode m_M_bound.2.1 45 = .ok (.aload_n 0, 1) := by decide +kernel
theorem q_M_bound_46 : decode m_M_bound.2.1 46 = .ok (.lconst 0, 1) := by decide +kernel
theorem q_M_bound_47 : decode m_M_bound.2.1 47 = .ok (.lconst 1, 1) := by decide +kernel
theorem q_M_bound_48 : decode m_M_bound.2.1 48 = .ok (.invokevirtual 152, 3) := by decide +kernel
theorem q_M_bound_51 : decode m_M_bound.2.1 51 = .ok (.lstore_n 2, 1) := by decide +kernel
theorem q_M_bound_52 : decode m_M_bound.2.1 52 = .ok (.iconst 0, 1) := by decide +kernel
theorem q_M_bound_53 : decode m_M_bound.2.1 53 = .ok (.istore 4, 2) := by decide +kernel
theorem q_M_bound_55 : decode m_M_bound.2.1 55 = .ok (.iload 4, 2) := by decide +kernel
theorem q_M_bound_57 : decode m_M_bound.2.1 57 = .ok (.aload_n 0, 1) := by decide +kernel
theorem q_M_bound_58 : decode m_M_bound.2.1 58 = .ok (.getfield 84, 3) := by decide +kernel
theorem q_M_bound_61 : decode m_M_bound.2.1 61 = .ok (.if_icmp .ge 55, 3) := by decide +kernel
theorem q_M_bound_64 : decode m_M_bound.2.1 64 = .ok (.aload_n 0, 1) := by decide +kernel
theorem q_M_bound_65 : decode m_M_bound.2.1 65 = .ok (.getfield 22, 3) := by decide +kernel
theorem q_M_bound_68 : decode m_M_bound.2.1 68 = .ok (.iload 4, 2) := by decide +kernel
theorem q_M_bound_70 : decode m_M_bound.2.1 70 = .ok (.laload, 1) := by decide +kernel
theorem q_M_bound_71 : decode m_M_bound.2.1 71 = .ok (.lconst 0, 1) := by decide +kernel
theorem q_M_bound_72 : decode m_M_bound.2.1 72 = .ok (.lcmp, 1) := by decide +kernel
theorem q_M_bound_73 : decode m_M_bound.2.1 73 = .ok (.ifCond .le 37, 3) := by decide +kernel
theorem q_M_bound_76 : decode m_M_bound.2.1 76 = .ok (.aload_n 0, 1) := by decide +kernel
theorem q_M_bound_77 : decode m_M_bound.2.1 77 = .ok (.aload_n 0, 1) := by decide +kernel
theorem q_M_bound_78 : decode m_M_bound.2.1 78 = .ok (.getfield 26, 3) := by decide +kernel
theorem q_M_bound_81 : decode m_M_bound.2.1 81 = .ok (.iload 4, 2) := by decide +kernel
theorem q_M_bound_83 : decode m_M_bound.2.1 83 = .ok (.laload, 1) := by decide +kernel
theorem q_M_bound_84 : decode m_M_bound.2.1 84 = .ok (.aload_n 0, 1) := by decide +kernel
theorem q_M_bound_85 : decode m_M_bound.2.1 85 = .ok (.getfield 22, 3) := by decide +kernel
theorem q_M_bound_88 : decode m_M_bound.2.1 88 = .ok (.iload 4, 2) := by decide +kernel
theorem q_M_bound_90 : decode m_M_bound.2.1 90 = .ok (.laload, 1) := by decide +kernel
theorem q_M_bound_91 : decode m_M_bound.2.1 91 = .ok (.invokevirtual 152, 3) := by decide +kernel
theorem q_M_bound_94 : decode m_M_bound.2.1 94 = .ok (.lstore 5, 2) := by decide +kernel
theorem q_M_bound_96 : decode m_M_bound.2.1 96 = .ok (.lload 5, 2) := by decide +kernel
theorem q_M_bound_98 : decode m_M_bound.2.1 98 = .ok (.lload_n 2, 1) := by decide +kernel
theorem q_M_bound_99 : decode m_M_bound.2.1 99 = .ok (.lcmp, 1) := by decide +kernel
theorem q_M_bound_100 : decode m_M_bound.2.1 100 = .ok (.ifCond .ge 8, 3) := by decide +kernel
theorem q_M_bound_103 : decode m_M_bound.2.1 103 = .ok (.lload 5, 2) := by decide +kernel
theorem q_M_bound_105 : decode m_M_bound.2.1 105 = .ok (.goto 4, 3) := by decide +kernel
theorem q_M_bound_108 : decode m_M_bound.2.1 108 = .ok (.lload_n 2, 1) := by decide +kernel
theorem q_M_bound_109 : decode m_M_bound.2.1 109 = .ok (.lstore_n 2, 1) := by decide +kernel
theorem q_M_bound_110 : decode m_M_bound.2.1 110 = .ok (.iinc 4 1, 3) := by decide +kernel
theorem q_M_bound_113 : decode m_M_bound.2.1 113 = .ok (.goto (-58), 3) := by decide +kernel
theorem q_M_bound_116 : decode m_M_bound.2.1 116 = .ok (.lload_n 2, 1) := by decide +kernel
theorem q_M_bound_117 : decode m_M_bound.2.1 117 = .ok (.lreturn, 1) := by decide +kernel
theorem q_M_someHolds_0 : decode m_M_someHolds.2.1 0 = .ok (.iconst 0, 1) := by decide +kernel
theorem q_M_someHolds_1 : decode m_M_someHolds.2.1 1 = .ok (.istore_n 2, 1) := by decide +kernel
theorem q_M_someHolds_2 : decode m_M_someHolds.2.1 2 = .ok (.iconst 0, 1) := by decide +kernel
theorem q_M_someHolds_3 : decode m_M_someHolds.2.1 3 = .ok (.istore_n 3, 1) := by decide +kernel
theorem q_M_someHolds_4 : decode m_M_someHolds.2.1 4 = .ok (.iload_n 3, 1) := by decide +kernel
theorem q_M_someHolds_5 : decode m_M_someHolds.2.1 5 = .ok (.iconst 1, 1) := by decide +kernel
theorem q_M_someHolds_6 : decode m_M_someHolds.2.1 6 = .ok (.aload_n 0, 1) := by decide +kernel
theorem q_M_someHolds_7 : decode m_M_someHolds.2.1 7 = .ok (.getfield 84, 3) := by decide +kernel
theorem q_M_someHolds_10 : decode m_M_someHolds.2.1 10 = .ok (.ishl, 1) := by decide +kernel
theorem q_M_someHolds_11 : decode m_M_someHolds.2.1 11 = .ok (.if_icmp .ge 24, 3) := by decide +kernel
theorem q_M_someHolds_14 : decode m_M_someHolds.2.1 14 = .ok (.iload_n 2, 1) := by decide +kernel
theorem q_M_someHolds_15 : decode m_M_someHolds.2.1 15 = .ok (.ifCond .ne 20, 3) := by decide +kernel
theorem q_M_someHolds_18 : decode m_M_someHolds.2.1 18 = .ok (.aload_n 0, 1) := by decide +kernel
theorem q_M_someHolds_19 : decode m_M_someHolds.2.1 19 = .ok (.aload_n 0, 1) := by decide +kernel
theorem q_M_someHolds_20 : decode m_M_someHolds.2.1 20 = .ok (.iload_n 3, 1) := by decide +kernel
theorem q_M_someHolds_21 : decode m_M_someHolds.2.1 21 = .ok (.invokevirtual 131, 3) := by decide +kernel
theorem q_M_someHolds_24 : decode m_M_someHolds.2.1 24 = .ok (.iload_n 1, 1) := by decide +kernel
theorem q_M_someHolds_25 : decode m_M_someHolds.2.1 25 = .ok (.invokevirtual 134, 3) := by decide +kernel
theorem q_M_someHolds_28 : decode m_M_someHolds.2.1 28 = .ok (.istore_n 2, 1) := by decide +kernel
theorem q_M_someHolds_29 : decode m_M_someHolds.2.1 29 = .ok (.iinc 3 1, 3) := by decide +kernel
theorem q_M_someHolds_32 : decode m_M_someHolds.2.1 32 = .ok (.goto (-28), 3) := by decide +kernel
theorem q_M_someHolds_35 : decode m_M_someHolds.2.1 35 = .ok (.iload_n 2, 1) := by decide +kernel
theorem q_M_someHolds_36 : decode m_M_someHolds.2.1 36 = .ok (.ireturn, 1) := by decide +kernel
theorem q_M_clash_0 : decode m_M_clash.2.1 0 = .ok (.aload_n 0, 1) := by decide +kernel
theorem q_M_clash_1 : decode m_M_clash.2.1 1 = .ok (.aload_n 0, 1) := by decide +kernel
theorem q_M_clash_2 : decode m_M_clash.2.1 2 = .ok (.getfield 91, 3) := by decide +kernel
theorem q_M_clash_5 : decode m_M_clash.2.1 5 = .ok (.invokevirtual 156, 3) := by decide +kernel
theorem q_M_clash_8 : decode m_M_clash.2.1 8 = .ok (.ifCond .eq 5, 3) := by decide +kernel
theorem q_M_clash_11 : decode m_M_clash.2.1 11 = .ok (.iconst (-1), 1) := by decide +kernel
theorem q_M_clash_12 : decode m_M_clash.2.1 12 = .ok (.ireturn, 1) := by decide +kernel
theorem q_M_clash_13 : decode m_M_clash.2.1 13 = .ok (.aload_n 0, 1) := by decide +kernel
theorem q_M_clash_14 : decode m_M_clash.2.1 14 = .ok (.getfield 91, 3) := by decide +kernel
theorem q_M_clash_17 : decode m_M_clash.2.1 17 = .ok (.istore_n 2, 1) := by decide +kernel
theorem q_M_clash_18 : decode m_M_clash.2.1 18 = .ok (.iconst 0, 1) := by decide +kernel
theorem q_M_clash_19 : decode m_M_clash.2.1 19 = .ok (.istore_n 3, 1) := by decide +kernel
theorem q_M_clash_20 : decode m_M_clash.2.1 20 = .ok (.iload_n 3, 1) := by decide +kernel
theorem q_M_clash_21 : decode m_M_clash.2.1 21 = .ok (.aload_n 0, 1) := by decide +kernel
theorem q_M_clash_22 : decode m_M_clash.2.1 22 = .ok (.getfield 84, 3) := by decide +kernel
theorem q_M_clash_25 : decode m_M_clash.2.1 25 = .ok (.if_icmp .ge 39, 3) := by decide +kernel
theorem q_M_clash_28 : decode m_M_clash.2.1 28 = .ok (.iload_n 2, 1) := by decide +kernel
theorem q_M_clash_29 : decode m_M_clash.2.1 29 = .ok (.iload_n 3, 1) := by decide +kernel
theorem q_M_clash_30 : decode m_M_clash.2.1 30 = .ok (.invokestatic 94, 3) := by decide +kernel
theorem q_M_clash_33 : decode m_M_clash.2.1 33 = .ok (.ifCond .eq 25, 3) := by decide +kernel
theorem q_M_clash_36 : decode m_M_clash.2.1 36 = .ok (.aload_n 0, 1) := by decide +kernel
theorem q_M_clash_37 : decode m_M_clash.2.1 37 = .ok (.iload_n 2, 1) := by decide +kernel
theorem q_M_clash_38 : decode m_M_clash.2.1 38 = .ok (.iconst 1, 1) := by decide +kernel
theorem q_M_clash_39 : decode m_M_clash.2.1 39 = .ok (.iload_n 3, 1) := by decide +kernel
theorem q_M_clash_40 : decode m_M_clash.2.1 40 = .ok (.ishl, 1) := by decide +kernel
theorem q_M_clash_41 : decode m_M_clash.2.1 41 = .ok (.iconst (-1), 1) := by decide +kernel
theorem q_M_clash_42 : decode m_M_clash.2.1 42 = .ok (.ixor, 1) := by decide +kernel
theorem q_M_clash_43 : decode m_M_clash.2.1 43 = .ok (.iand, 1) := by decide +kernel
theorem q_M_clash_44 : decode m_M_clash.2.1 44 = .ok (.invokevirtual 156, 3) := by decide +kernel
theorem q_M_clash_47 : decode m_M_clash.2.1 47 = .ok (.ifCond .ne 11, 3) := by decide +kernel
theorem q_M_clash_50 : decode m_M_clash.2.1 50 = .ok (.iload_n 2, 1) := by decide +kernel
theorem q_M_clash_51 : decode m_M_clash.2.1 51 = .ok (.iconst 1, 1) := by decide +kernel
theorem q_M_clash_52 : decode m_M_clash.2.1 52 = .ok (.iload_n 3, 1) := by decide +kernel
theorem q_M_clash_53 : decode m_M_clash.2.1 53 = .ok (.ishl, 1) := by decide +kernel
theorem q_M_clash_54 : decode m_M_clash.2.1 54 = .ok (.iconst (-1), 1) := by decide +kernel
theorem q_M_clash_55 : decode m_M_clash.2.1 55 = .ok (.ixor, 1) := by decide +kernel
theorem q_M_clash_56 : decode m_M_clash.2.1 56 = .ok (.iand, 1) := by decide +kernel
theorem q_M_clash_57 : decode m_M_clash.2.1 57 = .ok (.istore_n 2, 1) := by decide +kernel
theorem q_M_clash_58 : decode m_M_clash.2.1 58 = .ok (.iinc 3 1, 3) := by decide +kernel
theorem q_M_clash_61 : decode m_M_clash.2.1 61 = .ok (.goto (-41), 3) := by decide +kernel
theorem q_M_clash_64 : decode m_M_clash.2.1 64 = .ok (.iconst 0, 1) := by decide +kernel
theorem q_M_clash_65 : decode m_M_clash.2.1 65 = .ok (.istore_n 3, 1) := by decide +kernel
theorem q_M_clash_66 : decode m_M_clash.2.1 66 = .ok (.iconst 0, 1) := by decide +kernel
theorem q_M_clash_67 : decode m_M_clash.2.1 67 = .ok (.istore 4, 2) := by decide +kernel
theorem q_M_clash_69 : decode m_M_clash.2.1 69 = .ok (.iload 4, 2) := by decide +kernel
theorem q_M_clash_71 : decode m_M_clash.2.1 71 = .ok (.aload_n 0, 1) := by decide +kernel
theorem q_M_clash_72 : decode m_M_clash.2.1 72 = .ok (.getfield 84, 3) := by decide +kernel
theorem q_M_clash_75 : decode m_M_clash.2.1 75 = .ok (.if_icmp .ge 29, 3) := by decide +kernel
theorem q_M_clash_78 : decode m_M_clash.2.1 78 = .ok (.iload_n 2, 1) := by decide +kernel
theorem q_M_clash_79 : decode m_M_clash.2.1 79 = .ok (.iload 4, 2) := by decide +kernel
theorem q_M_clash_81 : decode m_M_clash.2.1 81 = .ok (.invokestatic 94, 3) := by decide +kernel
theorem q_M_clash_84 : decode m_M_clash.2.1 84 = .ok (.ifCond .eq 14, 3) := by decide +kernel
theorem q_M_clash_87 : decode m_M_clash.2.1 87 = .ok (.iload_n 3, 1) := by decide +kernel
theorem q_M_clash_88 : decode m_M_clash.2.1 88 = .ok (.iload_n 1, 1) := by decide +kernel
theorem q_M_clash_89 : decode m_M_clash.2.1 89 = .ok (.if_icmp .ne 6, 3) := by decide +kernel
theorem q_M_clash_92 : decode m_M_clash.2.1 92 = .ok (.iload 4, 2) := by decide +kernel
theorem q_M_clash_94 : decode m_M_clash.2.1 94 = .ok (.ireturn, 1) := by decide +kernel
theorem q_M_clash_95 : decode m_M_clash.2.1 95 = .ok (.iinc 3 1, 3) := by decide +kernel
theorem q_M_clash_98 : decode m_M_clash.2.1 98 = .ok (.iinc 4 1, 3) := by decide +kernel
theorem q_M_clash_101 : decode m_M_clash.2.1 101 = .ok (.goto (-32), 3) := by decide +kernel
theorem q_M_clash_104 : decode m_M_clash.2.1 104 = .ok (.iconst (-1), 1) := by decide +kernel
theorem q_M_clash_105 : decode m_M_clash.2.1 105 = .ok (.ireturn, 1) := by decide +kernel
theorem q_M_proved_0 : decode m_M_proved.2.1 0 = .ok (.aload_n 0, 1) := by decide +kernel
theorem q_M_proved_1 : decode m_M_proved.2.1 1 = .ok (.getfield 66, 3) := by decide +kernel
theorem q_M_proved_4 : decode m_M_proved.2.1 4 = .ok (.ireturn, 1) := by decide +kernel
theorem q_M_price_0 : decode m_M_price.2.1 0 = .ok (.aload_n 0, 1) := by decide +kernel
theorem q_M_price_1 : decode m_M_price.2.1 1 = .ok (.iload_n 1, 1) := by decide +kernel
theorem q_M_price_2 : decode m_M_price.2.1 2 = .ok (.invokevirtual 98, 3) := by decide +kernel
theorem q_M_price_5 : decode m_M_price.2.1 5 = .ok (.ifCond .eq 12, 3) := by decide +kernel
theorem q_M_price_8 : decode m_M_price.2.1 8 = .ok (.iload_n 2, 1) := by decide +kernel
theorem q_M_price_9 : decode m_M_price.2.1 9 = .ok (.ifCond .eq 12, 3) := by decide +kernel
theorem q_M_price_12 : decode m_M_price.2.1 12 = .ok (.iload_n 2, 1) := by decide +kernel
theorem q_M_price_13 : decode m_M_price.2.1 13 = .ok (.iconst 1, 1) := by decide +kernel
theorem q_M_price_14 : decode m_M_price.2.1 14 = .ok (.if_icmp .eq 7, 3) := by decide +kernel
theorem q_M_price_17 : decode m_M_price.2.1 17 = .ok (.ldc2_w 41, 3) := by decide +kernel
theorem q_M_price_20 : decode m_M_price.2.1 20 = .ok (.lreturn, 1) := by decide +kernel
theorem q_M_price_21 : decode m_M_price.2.1 21 = .ok (.lconst 0, 1) := by decide +kernel
theorem q_M_price_22 : decode m_M_price.2.1 22 = .ok (.lstore_n 3, 1) := by decide +kernel
theorem q_M_price_23 : decode m_M_price.2.1 23 = .ok (.iload_n 2, 1) := by decide +kernel
theorem q_M_price_24 : decode m_M_price.2.1 24 = .ok (.ifCond .ne 32, 3) := by decide +kernel
theorem q_M_price_27 : decode m_M_price.2.1 27 = .ok (.aload_n 0, 1) := by decide +kernel
theorem q_M_price_28 : decode m_M_price.2.1 28 = .ok (.ldc2_w 140, 3) := by decide +kernel
theorem q_M_price_31 : decode m_M_price.2.1 31 = .ok (.invokevirtual 142, 3) := by decide +kernel
theorem q_M_price_34 : decode m_M_price.2.1 34 = .ok (.istore 5, 2) := by decide +kernel
theorem q_M_price_36 : decode m_M_price.2.1 36 = .ok (.iload 5, 2) := by decide +kernel
theorem q_M_price_38 : decode m_M_price.2.1 38 = .ok (.iconst (-1), 1) := by decide +kernel
theorem q_M_price_39 : decode m_M_price.2.1 39 = .ok (.if_icmp .ne 7, 3) := by decide +kernel
theorem q_M_price_42 : decode m_M_price.2.1 42 = .ok (.ldc2_w 41, 3) := by decide +kernel
theorem q_M_price_45 : decode m_M_price.2.1 45 = .ok (.lreturn, 1) := by decide +kernel
theorem q_M_price_46 : decode m_M_price.2.1 46 = .ok (.aload_n 0, 1) := by decide +kernel
theorem q_M_price_47 : decode m_M_price.2.1 47 = .ok (.iload 5, 2) := by decide +kernel
theorem q_M_price_49 : decode m_M_price.2.1 49 = .ok (.invokevirtual 123, 3) := by decide +kernel
theorem q_M_price_52 : decode m_M_price.2.1 52 = .ok (.lstore_n 3, 1) := by decide +kernel
theorem q_M_price_53 : decode m_M_price.2.1 53 = .ok (.goto 9, 3) := by decide +kernel
theorem q_M_price_56 : decode m_M_price.2.1 56 = .ok (.aload_n 0, 1) := by decide +kernel
theorem q_M_price_57 : decode m_M_price.2.1 57 = .ok (.iconst 1, 1) := by decide +kernel
theorem q_M_price_58 : decode m_M_price.2.1 58 = .ok (.invokevirtual 159, 3) := by decide +kernel
theorem q_M_price_61 : decode m_M_price.2.1 61 = .ok (.lstore_n 3, 1) := by decide +kernel
theorem q_M_price_62 : decode m_M_price.2.1 62 = .ok (.aload_n 0, 1) := by decide +kernel
theorem q_M_price_63 : decode m_M_price.2.1 63 = .ok (.getfield 29, 3) := by decide +kernel
theorem q_M_price_66 : decode m_M_price.2.1 66 = .ok (.iload_n 1, 1) := by decide +kernel
theorem q_M_price_67 : decode m_M_price.2.1 67 = .ok (.dup2, 1) := by decide +kernel
theorem q_M_price_68 : decode m_M_price.2.1 68 = .ok (.laload, 1) := by decide +kernel
theorem q_M_price_69 : decode m_M_price.2.1 69 = .ok (.ldc2_w 162, 3) := by decide +kernel
theorem q_M_price_72 : decode m_M_price.2.1 72 = .ok (.ladd, 1) := by decide +kernel
theorem q_M_price_73 : decode m_M_price.2.1 73 = .ok (.lastore, 1) := by decide +kernel
theorem q_M_price_74 : decode m_M_price.2.1 74 = .ok (.iload_n 2, 1) := by decide +kernel
theorem q_M_price_75 : decode m_M_price.2.1 75 = .ok (.ifCond .ne 17, 3) := by decide +kernel
theorem q_M_price_78 : decode m_M_price.2.1 78 = .ok (.aload_n 0, 1) := by decide +kernel
theorem q_M_price_79 : decode m_M_price.2.1 79 = .ok (.aload_n 0, 1) := by decide +kernel
theorem q_M_price_80 : decode m_M_price.2.1 80 = .ok (.ldc2_w 140, 3) := by decide +kernel
theorem q_M_price_83 : decode m_M_price.2.1 83 = .ok (.invokevirtual 142, 3) := by decide +kernel
theorem q_M_price_86 : decode m_M_price.2.1 86 = .ok (.invokevirtual 123, 3) := by decide +kernel
theorem q_M_price_89 : decode m_M_price.2.1 89 = .ok (.goto 8, 3) := by decide +kernel
theorem q_M_price_92 : decode m_M_price.2.1 92 = .ok (.aload_n 0, 1) := by decide +kernel
theorem q_M_price_93 : decode m_M_price.2.1 93 = .ok (.iconst 1, 1) := by decide +kernel
theorem q_M_price_94 : decode m_M_price.2.1 94 = .ok (.invokevirtual 159, 3) := by decide +kernel
theorem q_M_price_97 : decode m_M_price.2.1 97 = .ok (.lstore 5, 2) := by decide +kernel
theorem q_M_price_99 : decode m_M_price.2.1 99 = .ok (.aload_n 0, 1) := by decide +kernel
theorem q_M_price_100 : decode m_M_price.2.1 100 = .ok (.getfield 29, 3) := by decide +kernel
theorem q_M_price_103 : decode m_M_price.2.1 103 = .ok (.iload_n 1, 1) := by decide +kernel
theorem q_M_price_104 : decode m_M_price.2.1 104 = .ok (.dup2, 1) := by decide +kernel
theorem q_M_price_105 : decode m_M_price.2.1 105 = .ok (.laload, 1) := by decide +kernel
theorem q_M_price_106 : decode m_M_price.2.1 106 = .ok (.ldc2_w 162, 3) := by decide +kernel
theorem q_M_price_109 : decode m_M_price.2.1 109 = .ok (.lsub, 1) := by decide +kernel
theorem q_M_price_110 : decode m_M_price.2.1 110 = .ok (.lastore, 1) := by decide +kernel
theorem q_M_price_111 : decode m_M_price.2.1 111 = .ok (.lload 5, 2) := by decide +kernel
theorem q_M_price_113 : decode m_M_price.2.1 113 = .ok (.lload_n 3, 1) := by decide +kernel
theorem q_M_price_114 : decode m_M_price.2.1 114 = .ok (.lsub, 1) := by decide +kernel
theorem q_M_price_115 : decode m_M_price.2.1 115 = .ok (.lreturn, 1) := by decide +kernel
theorem q_M_old_0 : decode m_M_old.2.1 0 = .ok (.aload_n 0, 1) := by decide +kernel
theorem q_M_old_1 : decode m_M_old.2.1 1 = .ok (.iload_n 1, 1) := by decide +kernel
theorem q_M_old_2 : decode m_M_old.2.1 2 = .ok (.invokevirtual 87, 3) := by decide +kernel
theorem q_M_old_5 : decode m_M_old.2.1 5 = .ok (.ifCond .ne 5, 3) := by decide +kernel
theorem q_M_old_8 : decode m_M_old.2.1 8 = .ok (.iconst 0, 1) := by decide +kernel
theorem q_M_old_9 : decode m_M_old.2.1 9 = .ok (.ireturn, 1) := by decide +kernel
theorem q_M_old_10 : decode m_M_old.2.1 10 = .ok (.aload_n 0, 1) := by decide +kernel
theorem q_M_old_11 : decode m_M_old.2.1 11 = .ok (.iload_n 2, 1) := by decide +kernel
theorem q_M_old_12 : decode m_M_old.2.1 12 = .ok (.ifCond .eq 14, 3) := by decide +kernel
theorem q_M_old_15 : decode m_M_old.2.1 15 = .ok (.aload_n 0, 1) := by decide +kernel
theorem q_M_old_16 : decode m_M_old.2.1 16 = .ok (.getfield 164, 3) := by decide +kernel
theorem q_M_old_19 : decode m_M_old.2.1 19 = .ok (.iconst 1, 1) := by decide +kernel
theorem q_M_old_20 : decode m_M_old.2.1 20 = .ok (.iload_n 1, 1) := by decide +kernel
theorem q_M_old_21 : decode m_M_old.2.1 21 = .ok (.ishl, 1) := by decide +kernel
theorem q_M_old_22 : decode m_M_old.2.1 22 = .ok (.ior, 1) := by decide +kernel
theorem q_M_old_23 : decode m_M_old.2.1 23 = .ok (.goto 13, 3) := by decide +kernel
theorem q_M_old_26 : decode m_M_old.2.1 26 = .ok (.aload_n 0, 1) := by decide +kernel
theorem q_M_old_27 : decode m_M_old.2.1 27 = .ok (.getfield 164, 3) := by decide +kernel
theorem q_M_old_30 : decode m_M_old.2.1 30 = .ok (.iconst 1, 1) := by decide +kernel
theorem q_M_old_31 : decode m_M_old.2.1 31 = .ok (.iload_n 1, 1) := by decide +kernel
theorem q_M_old_32 : decode m_M_old.2.1 32 = .ok (.ishl, 1) := by decide +kernel
theorem q_M_old_33 : decode m_M_old.2.1 33 = .ok (.iconst (-1), 1) := by decide +kernel
theorem q_M_old_34 : decode m_M_old.2.1 34 = .ok (.ixor, 1) := by decide +kernel
theorem q_M_old_35 : decode m_M_old.2.1 35 = .ok (.iand, 1) := by decide +kernel
theorem q_M_old_36 : decode m_M_old.2.1 36 = .ok (.putfield 164, 3) := by decide +kernel
theorem q_M_old_39 : decode m_M_old.2.1 39 = .ok (.iconst 1, 1) := by decide +kernel
theorem q_M_old_40 : decode m_M_old.2.1 40 = .ok (.ireturn, 1) := by decide +kernel
theorem q_M_differ_0 : decode m_M_differ.2.1 0 = .ok (.iconst 0, 1) := by decide +kernel
theorem q_M_differ_1 : decode m_M_differ.2.1 1 = .ok (.istore_n 2, 1) := by decide +kernel
theorem q_M_differ_2 : decode m_M_differ.2.1 2 = .ok (.iconst 0, 1) := by decide +kernel
theorem q_M_differ_3 : decode m_M_differ.2.1 3 = .ok (.istore_n 3, 1) := by decide +kernel
theorem q_M_differ_4 : decode m_M_differ.2.1 4 = .ok (.iload_n 3, 1) := by decide +kernel
theorem q_M_differ_5 : decode m_M_differ.2.1 5 = .ok (.aload_n 0, 1) := by decide +kernel
theorem q_M_differ_6 : decode m_M_differ.2.1 6 = .ok (.getfield 84, 3) := by decide +kernel
theorem q_M_differ_9 : decode m_M_differ.2.1 9 = .ok (.if_icmp .ge 30, 3) := by decide +kernel
theorem q_M_differ_12 : decode m_M_differ.2.1 12 = .ok (.iload_n 2, 1) := by decide +kernel
theorem q_M_differ_13 : decode m_M_differ.2.1 13 = .ok (.iload_n 1, 1) := by decide +kernel
theorem q_M_differ_14 : decode m_M_differ.2.1 14 = .ok (.aload_n 0, 1) := by decide +kernel
theorem q_M_differ_15 : decode m_M_differ.2.1 15 = .ok (.getfield 164, 3) := by decide +kernel
theorem q_M_differ_18 : decode m_M_differ.2.1 18 = .ok (.ixor, 1) := by decide +kernel
theorem q_M_differ_19 : decode m_M_differ.2.1 19 = .ok (.iload_n 3, 1) := by decide +kernel
theorem q_M_differ_20 : decode m_M_differ.2.1 20 = .ok (.invokestatic 94, 3) := by decide +kernel
theorem q_M_differ_23 : decode m_M_differ.2.1 23 = .ok (.ifCond .eq 7, 3) := by decide +kernel
theorem q_M_differ_26 : decode m_M_differ.2.1 26 = .ok (.iconst 1, 1) := by decide +kernel
theorem q_M_differ_27 : decode m_M_differ.2.1 27 = .ok (.goto 4, 3) := by decide +kernel
theorem q_M_differ_30 : decode m_M_differ.2.1 30 = .ok (.iconst 0, 1) := by decide +kernel
theorem q_M_differ_31 : decode m_M_differ.2.1 31 = .ok (.iadd, 1) := by decide +kernel
theorem q_M_differ_32 : decode m_M_differ.2.1 32 = .ok (.istore_n 2, 1) := by decide +kernel
theorem q_M_differ_33 : decode m_M_differ.2.1 33 = .ok (.iinc 3 1, 3) := by decide +kernel
theorem q_M_differ_36 : decode m_M_differ.2.1 36 = .ok (.goto (-32), 3) := by decide +kernel
theorem q_M_differ_39 : decode m_M_differ.2.1 39 = .ok (.iload_n 2, 1) := by decide +kernel
theorem q_M_differ_40 : decode m_M_differ.2.1 40 = .ok (.ireturn, 1) := by decide +kernel
theorem q_M_changes_0 : decode m_M_changes.2.1 0 = .ok (.lload_n 1, 1) := by decide +kernel
theorem q_M_changes_1 : decode m_M_changes.2.1 1 = .ok (.lconst 1, 1) := by decide +kernel
theorem q_M_changes_2 : decode m_M_changes.2.1 2 = .ok (.ldc2_w 140, 3) := by decide +kernel
theorem q_M_changes_5 : decode m_M_changes.2.1 5 = .ok (.invokestatic 72, 3) := by decide +kernel
theorem q_M_changes_8 : decode m_M_changes.2.1 8 = .ok (.ifCond .ne 5, 3) := by decide +kernel
theorem q_M_changes_11 : decode m_M_changes.2.1 11 = .ok (.iconst (-1), 1) := by decide +kernel
theorem q_M_changes_12 : decode m_M_changes.2.1 12 = .ok (.ireturn, 1) := by decide +kernel
theorem q_M_changes_13 : decode m_M_changes.2.1 13 = .ok (.iconst (-1), 1) := by decide +kernel
theorem q_M_changes_14 : decode m_M_changes.2.1 14 = .ok (.istore_n 3, 1) := by decide +kernel
theorem q_M_changes_15 : decode m_M_changes.2.1 15 = .ok (.iconst 0, 1) := by decide +kernel
theorem q_M_changes_16 : decode m_M_changes.2.1 16 = .ok (.istore 4, 2) := by decide +kernel
theorem q_M_changes_18 : decode m_M_changes.2.1 18 = .ok (.iload 4, 2) := by decide +kernel
theorem q_M_changes_20 : decode m_M_changes.2.1 20 = .ok (.i2l, 1) := by decide +kernel
theorem q_M_changes_21 : decode m_M_changes.2.1 21 = .ok (.lload_n 1, 1) := by decide +kernel
theorem q_M_changes_22 : decode m_M_changes.2.1 22 = .ok (.lcmp, 1) := by decide +kernel
theorem q_M_changes_23 : decode m_M_changes.2.1 23 = .ok (.ifCond .ge 103, 3) := by decide +kernel
theorem q_M_changes_26 : decode m_M_changes.2.1 26 = .ok (.iload 4, 2) := by decide +kernel
theorem q_M_changes_28 : decode m_M_changes.2.1 28 = .ok (.iconst 1, 1) := by decide +kernel
theorem q_M_changes_29 : decode m_M_changes.2.1 29 = .ok (.aload_n 0, 1) := by decide +kernel
theorem q_M_changes_30 : decode m_M_changes.2.1 30 = .ok (.getfield 84, 3) := by decide +kernel
theorem q_M_changes_33 : decode m_M_changes.2.1 33 = .ok (.ishl, 1) := by decide +kernel
theorem q_M_changes_34 : decode m_M_changes.2.1 34 = .ok (.if_icmp .ge 92, 3) := by decide +kernel
theorem q_M_changes_37 : decode m_M_changes.2.1 37 = .ok (.aload_n 0, 1) := by decide +kernel
theorem q_M_changes_38 : decode m_M_changes.2.1 38 = .ok (.iload 4, 2) := by decide +kernel
theorem q_M_changes_40 : decode m_M_changes.2.1 40 = .ok (.invokevirtual 131, 3) := by decide +kernel
theorem q_M_changes_43 : decode m_M_changes.2.1 43 = .ok (.istore 5, 2) := by decide +kernel
theorem q_M_changes_45 : decode m_M_changes.2.1 45 = .ok (.aload_n 0, 1) := by decide +kernel
theorem q_M_changes_46 : decode m_M_changes.2.1 46 = .ok (.iload 5, 2) := by decide +kernel
theorem q_M_changes_48 : decode m_M_changes.2.1 48 = .ok (.aload_n 0, 1) := by decide +kernel
theorem q_M_changes_49 : decode m_M_changes.2.1 49 = .ok (.getfield 91, 3) := by decide +kernel
theorem q_M_changes_52 : decode m_M_changes.2.1 52 = .ok (.invokevirtual 134, 3) := by decide +kernel
theorem q_M_changes_55 : decode m_M_changes.2.1 55 = .ok (.ifCond .eq 65, 3) := by decide +kernel
theorem q_M_changes_58 : decode m_M_changes.2.1 58 = .ok (.iload_n 3, 1) := by decide +kernel
theorem q_M_changes_59 : decode m_M_changes.2.1 59 = .ok (.iconst (-1), 1) := by decide +kernel
theorem q_M_changes_60 : decode m_M_changes.2.1 60 = .ok (.if_icmp .eq 17, 3) := by decide +kernel
theorem q_M_changes_63 : decode m_M_changes.2.1 63 = .ok (.aload_n 0, 1) := by decide +kernel
theorem q_M_changes_64 : decode m_M_changes.2.1 64 = .ok (.iload 5, 2) := by decide +kernel
theorem q_M_changes_66 : decode m_M_changes.2.1 66 = .ok (.invokevirtual 167, 3) := by decide +kernel
theorem q_M_changes_69 : decode m_M_changes.2.1 69 = .ok (.aload_n 0, 1) := by decide +kernel
theorem q_M_changes_70 : decode m_M_changes.2.1 70 = .ok (.iload_n 3, 1) := by decide +kernel
theorem q_M_changes_71 : decode m_M_changes.2.1 71 = .ok (.invokevirtual 167, 3) := by decide +kernel
theorem q_M_changes_74 : decode m_M_changes.2.1 74 = .ok (.if_icmp .ge 7, 3) := by decide +kernel
theorem q_M_changes_77 : decode m_M_changes.2.1 77 = .ok (.iconst 1, 1) := by decide +kernel
theorem q_M_changes_78 : decode m_M_changes.2.1 78 = .ok (.goto 4, 3) := by decide +kernel
theorem q_M_changes_81 : decode m_M_changes.2.1 81 = .ok (.iconst 0, 1) := by decide +kernel
theorem q_M_changes_82 : decode m_M_changes.2.1 82 = .ok (.istore 6, 2) := by decide +kernel
theorem q_M_changes_84 : decode m_M_changes.2.1 84 = .ok (.iload 6, 2) := by decide +kernel
theorem q_M_changes_86 : decode m_M_changes.2.1 86 = .ok (.ifCond .ne 27, 3) := by decide +kernel
theorem q_M_changes_89 : decode m_M_changes.2.1 89 = .ok (.aload_n 0, 1) := by decide +kernel
theorem q_M_changes_90 : decode m_M_changes.2.1 90 = .ok (.iload 5, 2) := by decide +kernel
theorem q_M_changes_92 : decode m_M_changes.2.1 92 = .ok (.invokevirtual 167, 3) := by decide +kernel
theorem q_M_changes_95 : decode m_M_changes.2.1 95 = .ok (.aload_n 0, 1) := by decide +kernel
theorem q_M_changes_96 : decode m_M_changes.2.1 96 = .ok (.iload_n 3, 1) := by decide +kernel
theorem q_M_changes_97 : decode m_M_changes.2.1 97 = .ok (.invokevirtual 167, 3) := by decide +kernel
theorem q_M_changes_100 : decode m_M_changes.2.1 100 = .ok (.if_icmp .ne 18, 3) := by decide +kernel
theorem q_M_changes_103 : decode m_M_changes.2.1 103 = .ok (.aload_n 0, 1) := by decide +kernel
theorem q_M_changes_104 : decode m_M_changes.2.1 104 = .ok (.iload 5, 2) := by decide +kernel
theorem q_M_changes_106 : decode m_M_changes.2.1 106 = .ok (.iload_n 3, 1) := by decide +kernel
theorem q_M_changes_107 : decode m_M_changes.2.1 107 = .ok (.invokevirtual 137, 3) := by decide +kernel
theorem q_M_changes_110 : decode m_M_changes.2.1 110 = .ok (.ifCond .eq 8, 3) := by decide +kernel
theorem q_M_changes_113 : decode m_M_changes.2.1 113 = .ok (.iload 5, 2) := by decide +kernel
theorem q_M_changes_115 : decode m_M_changes.2.1 115 = .ok (.goto 4, 3) := by decide +kernel
theorem q_M_changes_118 : decode m_M_changes.2.1 118 = .ok (.iload_n 3, 1) := by decide +kernel
theorem q_M_changes_119 : decode m_M_changes.2.1 119 = .ok (.istore_n 3, 1) := by decide +kernel
theorem q_M_changes_120 : decode m_M_changes.2.1 120 = .ok (.iinc 4 1, 3) := by decide +kernel
theorem q_M_changes_123 : decode m_M_changes.2.1 123 = .ok (.goto (-105), 3) := by decide +kernel
theorem q_M_changes_126 : decode m_M_changes.2.1 126 = .ok (.aload_n 0, 1) := by decide +kernel
theorem q_M_changes_127 : decode m_M_changes.2.1 127 = .ok (.iload_n 3, 1) := by decide +kernel
theorem q_M_changes_128 : decode m_M_changes.2.1 128 = .ok (.putfield 47, 3) := by decide +kernel
theorem q_M_changes_131 : decode m_M_changes.2.1 131 = .ok (.iload_n 3, 1) := by decide +kernel
theorem q_M_changes_132 : decode m_M_changes.2.1 132 = .ok (.iconst (-1), 1) := by decide +kernel
theorem q_M_changes_133 : decode m_M_changes.2.1 133 = .ok (.if_icmp .ne 7, 3) := by decide +kernel
theorem q_M_changes_136 : decode m_M_changes.2.1 136 = .ok (.iconst (-1), 1) := by decide +kernel
theorem q_M_changes_137 : decode m_M_changes.2.1 137 = .ok (.goto 8, 3) := by decide +kernel
theorem q_M_changes_140 : decode m_M_changes.2.1 140 = .ok (.aload_n 0, 1) := by decide +kernel
theorem q_M_changes_141 : decode m_M_changes.2.1 141 = .ok (.iload_n 3, 1) := by decide +kernel
theorem q_M_changes_142 : decode m_M_changes.2.1 142 = .ok (.invokevirtual 167, 3) := by decide +kernel
theorem q_M_changes_145 : decode m_M_changes.2.1 145 = .ok (.ireturn, 1) := by decide +kernel
theorem q_M_changed_0 : decode m_M_changed.2.1 0 = .ok (.iconst 0, 1) := by decide +kernel
theorem q_M_changed_1 : decode m_M_changed.2.1 1 = .ok (.istore_n 2, 1) := by decide +kernel
theorem q_M_changed_2 : decode m_M_changed.2.1 2 = .ok (.iconst 0, 1) := by decide +kernel
theorem q_M_changed_3 : decode m_M_changed.2.1 3 = .ok (.istore_n 3, 1) := by decide +kernel
theorem q_M_changed_4 : decode m_M_changed.2.1 4 = .ok (.iload_n 3, 1) := by decide +kernel
theorem q_M_changed_5 : decode m_M_changed.2.1 5 = .ok (.aload_n 0, 1) := by decide +kernel
theorem q_M_changed_6 : decode m_M_changed.2.1 6 = .ok (.getfield 84, 3) := by decide +kernel
theorem q_M_changed_9 : decode m_M_changed.2.1 9 = .ok (.if_icmp .ge 43, 3) := by decide +kernel
theorem q_M_changed_12 : decode m_M_changed.2.1 12 = .ok (.aload_n 0, 1) := by decide +kernel
theorem q_M_changed_13 : decode m_M_changed.2.1 13 = .ok (.getfield 47, 3) := by decide +kernel
theorem q_M_changed_16 : decode m_M_changed.2.1 16 = .ok (.iconst (-1), 1) := by decide +kernel
theorem q_M_changed_17 : decode m_M_changed.2.1 17 = .ok (.if_icmp .eq 35, 3) := by decide +kernel
theorem q_M_changed_20 : decode m_M_changed.2.1 20 = .ok (.aload_n 0, 1) := by decide +kernel
theorem q_M_changed_21 : decode m_M_changed.2.1 21 = .ok (.getfield 47, 3) := by decide +kernel
theorem q_M_changed_24 : decode m_M_changed.2.1 24 = .ok (.aload_n 0, 1) := by decide +kernel
theorem q_M_changed_25 : decode m_M_changed.2.1 25 = .ok (.getfield 164, 3) := by decide +kernel
theorem q_M_changed_28 : decode m_M_changed.2.1 28 = .ok (.ixor, 1) := by decide +kernel
theorem q_M_changed_29 : decode m_M_changed.2.1 29 = .ok (.iload_n 3, 1) := by decide +kernel
theorem q_M_changed_30 : decode m_M_changed.2.1 30 = .ok (.invokestatic 94, 3) := by decide +kernel
theorem q_M_changed_33 : decode m_M_changed.2.1 33 = .ok (.ifCond .eq 13, 3) := by decide +kernel
theorem q_M_changed_36 : decode m_M_changed.2.1 36 = .ok (.iload_n 2, 1) := by decide +kernel
theorem q_M_changed_37 : decode m_M_changed.2.1 37 = .ok (.iload_n 1, 1) := by decide +kernel
theorem q_M_changed_38 : decode m_M_changed.2.1 38 = .ok (.if_icmp .ne 5, 3) := by decide +kernel
theorem q_M_changed_41 : decode m_M_changed.2.1 41 = .ok (.iload_n 3, 1) := by decide +kernel
theorem q_M_changed_42 : decode m_M_changed.2.1 42 = .ok (.ireturn, 1) := by decide +kernel
theorem q_M_changed_43 : decode m_M_changed.2.1 43 = .ok (.iinc 2 1, 3) := by decide +kernel
theorem q_M_changed_46 : decode m_M_changed.2.1 46 = .ok (.iinc 3 1, 3) := by decide +kernel
theorem q_M_changed_49 : decode m_M_changed.2.1 49 = .ok (.goto (-45), 3) := by decide +kernel
theorem q_M_changed_52 : decode m_M_changed.2.1 52 = .ok (.iconst (-1), 1) := by decide +kernel
theorem q_M_changed_53 : decode m_M_changed.2.1 53 = .ok (.ireturn, 1) := by decide +kernel
theorem q_M_backlog_0 : decode m_M_backlog.2.1 0 = .ok (.aload_n 0, 1) := by decide +kernel
theorem q_M_backlog_1 : decode m_M_backlog.2.1 1 = .ok (.iload_n 1, 1) := by decide +kernel
theorem q_M_backlog_2 : decode m_M_backlog.2.1 2 = .ok (.invokevirtual 98, 3) := by decide +kernel
theorem q_M_backlog_5 : decode m_M_backlog.2.1 5 = .ok (.ifCond .ne 7, 3) := by decide +kernel
theorem q_M_backlog_8 : decode m_M_backlog.2.1 8 = .ok (.ldc2_w 41, 3) := by decide +kernel
theorem q_M_backlog_11 : decode m_M_backlog.2.1 11 = .ok (.lreturn, 1) := by decide +kernel
theorem q_M_backlog_12 : decode m_M_backlog.2.1 12 = .ok (.lconst 0, 1) := by decide +kernel
theorem q_M_backlog_13 : decode m_M_backlog.2.1 13 = .ok (.lstore_n 2, 1) := by decide +kernel
theorem q_M_backlog_14 : decode m_M_backlog.2.1 14 = .ok (.iconst 0, 1) := by decide +kernel
theorem q_M_backlog_15 : decode m_M_backlog.2.1 15 = .ok (.istore 4, 2) := by decide +kernel
theorem q_M_backlog_17 : decode m_M_backlog.2.1 17 = .ok (.iload 4, 2) := by decide +kernel
theorem q_M_backlog_19 : decode m_M_backlog.2.1 19 = .ok (.aload_n 0, 1) := by decide +kernel
theorem q_M_backlog_20 : decode m_M_backlog.2.1 20 = .ok (.getfield 76, 3) := by decide +kernel
theorem q_M_backlog_23 : decode m_M_backlog.2.1 23 = .ok (.if_icmp .ge 104, 3) := by decide +kernel
theorem q_M_backlog_26 : decode m_M_backlog.2.1 26 = .ok (.iconst 0, 1) := by decide +kernel
theorem q_M_backlog_27 : decode m_M_backlog.2.1 27 = .ok (.istore 5, 2) := by decide +kernel
theorem q_M_backlog_29 : decode m_M_backlog.2.1 29 = .ok (.iconst 0, 1) := by decide +kernel
theorem q_M_backlog_30 : decode m_M_backlog.2.1 30 = .ok (.istore 6, 2) := by decide +kernel
theorem q_M_backlog_32 : decode m_M_backlog.2.1 32 = .ok (.iload 6, 2) := by decide +kernel
theorem q_M_backlog_34 : decode m_M_backlog.2.1 34 = .ok (.aload_n 0, 1) := by decide +kernel
theorem q_M_backlog_35 : decode m_M_backlog.2.1 35 = .ok (.getfield 84, 3) := by decide +kernel
theorem q_M_backlog_38 : decode m_M_backlog.2.1 38 = .ok (.if_icmp .ge 64, 3) := by decide +kernel
theorem q_M_backlog_41 : decode m_M_backlog.2.1 41 = .ok (.iload 5, 2) := by decide +kernel
theorem q_M_backlog_43 : decode m_M_backlog.2.1 43 = .ok (.ifCond .ne 46, 3) := by decide +kernel
theorem q_M_backlog_46 : decode m_M_backlog.2.1 46 = .ok (.aload_n 0, 1) := by decide +kernel
theorem q_M_backlog_47 : decode m_M_backlog.2.1 47 = .ok (.getfield 47, 3) := by decide +kernel
theorem q_M_backlog_50 : decode m_M_backlog.2.1 50 = .ok (.iconst (-1), 1) := by decide +kernel
theorem q_M_backlog_51 : decode m_M_backlog.2.1 51 = .ok (.if_icmp .eq 42, 3) := by decide +kernel
theorem q_M_backlog_54 : decode m_M_backlog.2.1 54 = .ok (.aload_n 0, 1) := by decide +kernel
theorem q_M_backlog_55 : decode m_M_backlog.2.1 55 = .ok (.getfield 47, 3) := by decide +kernel
theorem q_M_backlog_58 : decode m_M_backlog.2.1 58 = .ok (.iload 6, 2) := by decide +kernel
theorem q_M_backlog_60 : decode m_M_backlog.2.1 60 = .ok (.invokestatic 94, 3) := by decide +kernel
theorem q_M_backlog_63 : decode m_M_backlog.2.1 63 = .ok (.ifCond .eq 30, 3) := by decide +kernel
theorem q_M_backlog_66 : decode m_M_backlog.2.1 66 = .ok (.aload_n 0, 1) := by decide +kernel
theorem q_M_backlog_67 : decode m_M_backlog.2.1 67 = .ok (.getfield 16, 3) := by decide +kernel
theorem q_M_backlog_70 : decode m_M_backlog.2.1 70 = .ok (.iload 6, 2) := by decide +kernel
theorem q_M_backlog_72 : decode m_M_backlog.2.1 72 = .ok (.iaload, 1) := by decide +kernel
theorem q_M_backlog_73 : decode m_M_backlog.2.1 73 = .ok (.iload 4, 2) := by decide +kernel
theorem q_M_backlog_75 : decode m_M_backlog.2.1 75 = .ok (.if_icmp .ne 18, 3) := by decide +kernel
theorem q_M_backlog_78 : decode m_M_backlog.2.1 78 = .ok (.aload_n 0, 1) := by decide +kernel
theorem q_M_backlog_79 : decode m_M_backlog.2.1 79 = .ok (.getfield 19, 3) := by decide +kernel
theorem q_M_backlog_82 : decode m_M_backlog.2.1 82 = .ok (.iload 6, 2) := by decide +kernel
theorem q_M_backlog_84 : decode m_M_backlog.2.1 84 = .ok (.iaload, 1) := by decide +kernel
theorem q_M_backlog_85 : decode m_M_backlog.2.1 85 = .ok (.iload_n 1, 1) := by decide +kernel
theorem q_M_backlog_86 : decode m_M_backlog.2.1 86 = .ok (.if_icmp .gt 7, 3) := by decide +kernel
theorem q_M_backlog_89 : decode m_M_backlog.2.1 89 = .ok (.iconst 1, 1) := by decide +kernel
theorem q_M_backlog_90 : decode m_M_backlog.2.1 90 = .ok (.goto 4, 3) := by decide +kernel
theorem q_M_backlog_93 : decode m_M_backlog.2.1 93 = .ok (.iconst 0, 1) := by decide +kernel
theorem q_M_backlog_94 : decode m_M_backlog.2.1 94 = .ok (.istore 5, 2) := by decide +kernel
theorem q_M_backlog_96 : decode m_M_backlog.2.1 96 = .ok (.iinc 6 1, 3) := by decide +kernel
theorem q_M_backlog_99 : decode m_M_backlog.2.1 99 = .ok (.goto (-67), 3) := by decide +kernel
theorem q_M_backlog_102 : decode m_M_backlog.2.1 102 = .ok (.lload_n 2, 1) := by decide +kernel
theorem q_M_backlog_103 : decode m_M_backlog.2.1 103 = .ok (.iload 5, 2) := by decide +kernel
theorem q_M_backlog_105 : decode m_M_backlog.2.1 105 = .ok (.ifCond .eq 7, 3) := by decide +kernel
theorem q_M_backlog_108 : decode m_M_backlog.2.1 108 = .ok (.lconst 0, 1) := by decide +kernel
theorem q_M_backlog_109 : decode m_M_backlog.2.1 109 = .ok (.goto 10, 3) := by decide +kernel
theorem q_M_backlog_112 : decode m_M_backlog.2.1 112 = .ok (.aload_n 0, 1) := by decide +kernel
theorem q_M_backlog_113 : decode m_M_backlog.2.1 113 = .ok (.iload 4, 2) := by decide +kernel
theorem q_M_backlog_115 : decode m_M_backlog.2.1 115 = .ok (.iload_n 1, 1) := by decide +kernel
theorem q_M_backlog_116 : decode m_M_backlog.2.1 116 = .ok (.invokevirtual 149, 3) := by decide +kernel
theorem q_M_backlog_119 : decode m_M_backlog.2.1 119 = .ok (.ladd, 1) := by decide +kernel
theorem q_M_backlog_120 : decode m_M_backlog.2.1 120 = .ok (.lstore_n 2, 1) := by decide +kernel
theorem q_M_backlog_121 : decode m_M_backlog.2.1 121 = .ok (.iinc 4 1, 3) := by decide +kernel
theorem q_M_backlog_124 : decode m_M_backlog.2.1 124 = .ok (.goto (-107), 3) := by decide +kernel
theorem q_M_backlog_127 : decode m_M_backlog.2.1 127 = .ok (.lload_n 2, 1) := by decide +kernel
theorem q_M_backlog_128 : decode m_M_backlog.2.1 128 = .ok (.lreturn, 1) := by decide +kernel
theorem q_M_rank_0 : decode m_M_rank.2.1 0 = .ok (.iload_n 1, 1) := by decide +kernel
theorem q_M_rank_1 : decode m_M_rank.2.1 1 = .ok (.ifCond .lt 11, 3) := by decide +kernel
theorem q_M_rank_4 : decode m_M_rank.2.1 4 = .ok (.iload_n 1, 1) := by decide +kernel
theorem q_M_rank_5 : decode m_M_rank.2.1 5 = .ok (.aload_n 0, 1) := by decide +kernel
theorem q_M_rank_6 : decode m_M_rank.2.1 6 = .ok (.getfield 76, 3) := by decide +kernel
theorem q_M_rank_9 : decode m_M_rank.2.1 9 = .ok (.if_icmp .lt 5, 3) := by decide +kernel
theorem q_M_rank_12 : decode m_M_rank.2.1 12 = .ok (.iconst (-1), 1) := by decide +kernel
theorem q_M_rank_13 : decode m_M_rank.2.1 13 = .ok (.ireturn, 1) := by decide +kernel
theorem q_M_rank_14 : decode m_M_rank.2.1 14 = .ok (.iconst 0, 1) := by decide +kernel
theorem q_M_rank_15 : decode m_M_rank.2.1 15 = .ok (.istore_n 2, 1) := by decide +kernel
theorem q_M_rank_16 : decode m_M_rank.2.1 16 = .ok (.iload_n 2, 1) := by decide +kernel
theorem q_M_rank_17 : decode m_M_rank.2.1 17 = .ok (.aload_n 0, 1) := by decide +kernel
theorem q_M_rank_18 : decode m_M_rank.2.1 18 = .ok (.getfield 76, 3) := by decide +kernel
theorem q_M_rank_21 : decode m_M_rank.2.1 21 = .ok (.if_icmp .ge 115, 3) := by decide +kernel
theorem q_M_rank_24 : decode m_M_rank.2.1 24 = .ok (.iconst 0, 1) := by decide +kernel
theorem q_M_rank_25 : decode m_M_rank.2.1 25 = .ok (.istore_n 3, 1) := by decide +kernel
theorem q_M_rank_26 : decode m_M_rank.2.1 26 = .ok (.iconst 0, 1) := by decide +kernel
theorem q_M_rank_27 : decode m_M_rank.2.1 27 = .ok (.istore 4, 2) := by decide +kernel
theorem q_M_rank_29 : decode m_M_rank.2.1 29 = .ok (.iload 4, 2) := by decide +kernel
theorem q_M_rank_31 : decode m_M_rank.2.1 31 = .ok (.aload_n 0, 1) := by decide +kernel
theorem q_M_rank_32 : decode m_M_rank.2.1 32 = .ok (.getfield 76, 3) := by decide +kernel
theorem q_M_rank_35 : decode m_M_rank.2.1 35 = .ok (.if_icmp .ge 88, 3) := by decide +kernel
theorem q_M_rank_38 : decode m_M_rank.2.1 38 = .ok (.aload_n 0, 1) := by decide +kernel
theorem q_M_rank_39 : decode m_M_rank.2.1 39 = .ok (.iload 4, 2) := by decide +kernel
theorem q_M_rank_41 : decode m_M_rank.2.1 41 = .ok (.iconst 5, 1) := by decide +kernel
theorem q_M_rank_42 : decode m_M_rank.2.1 42 = .ok (.invokevirtual 149, 3) := by decide +kernel
theorem q_M_rank_45 : decode m_M_rank.2.1 45 = .ok (.lstore 5, 2) := by decide +kernel
theorem q_M_rank_47 : decode m_M_rank.2.1 47 = .ok (.aload_n 0, 1) := by decide +kernel
theorem q_M_rank_48 : decode m_M_rank.2.1 48 = .ok (.iload_n 2, 1) := by decide +kernel
theorem q_M_rank_49 : decode m_M_rank.2.1 49 = .ok (.iconst 5, 1) := by decide +kernel
theorem q_M_rank_50 : decode m_M_rank.2.1 50 = .ok (.invokevirtual 149, 3) := by decide +kernel
theorem q_M_rank_53 : decode m_M_rank.2.1 53 = .ok (.lstore 7, 2) := by decide +kernel
theorem q_M_rank_55 : decode m_M_rank.2.1 55 = .ok (.iload_n 3, 1) := by decide +kernel
theorem q_M_rank_56 : decode m_M_rank.2.1 56 = .ok (.lload 5, 2) := by decide +kernel
theorem q_M_rank_58 : decode m_M_rank.2.1 58 = .ok (.lload 7, 2) := by decide +kernel
theorem q_M_rank_60 : decode m_M_rank.2.1 60 = .ok (.lcmp, 1) := by decide +kernel
theorem q_M_rank_61 : decode m_M_rank.2.1 61 = .ok (.ifCond .gt 49, 3) := by decide +kernel
theorem q_M_rank_64 : decode m_M_rank.2.1 64 = .ok (.lload 5, 2) := by decide +kernel
theorem q_M_rank_66 : decode m_M_rank.2.1 66 = .ok (.lload 7, 2) := by decide +kernel
theorem q_M_rank_68 : decode m_M_rank.2.1 68 = .ok (.lcmp, 1) := by decide +kernel
theorem q_M_rank_69 : decode m_M_rank.2.1 69 = .ok (.ifCond .ne 45, 3) := by decide +kernel
theorem q_M_rank_72 : decode m_M_rank.2.1 72 = .ok (.aload_n 0, 1) := by decide +kernel
theorem q_M_rank_73 : decode m_M_rank.2.1 73 = .ok (.getfield 7, 3) := by decide +kernel
theorem q_M_rank_76 : decode m_M_rank.2.1 76 = .ok (.iload 4, 2) := by decide +kernel
theorem q_M_rank_78 : decode m_M_rank.2.1 78 = .ok (.iaload, 1) := by decide +kernel
theorem q_M_rank_79 : decode m_M_rank.2.1 79 = .ok (.aload_n 0, 1) := by decide +kernel
theorem q_M_rank_80 : decode m_M_rank.2.1 80 = .ok (.getfield 7, 3) := by decide +kernel
theorem q_M_rank_83 : decode m_M_rank.2.1 83 = .ok (.iload_n 2, 1) := by decide +kernel
theorem q_M_rank_84 : decode m_M_rank.2.1 84 = .ok (.iaload, 1) := by decide +kernel
theorem q_M_rank_85 : decode m_M_rank.2.1 85 = .ok (.if_icmp .lt 25, 3) := by decide +kernel
theorem q_M_rank_88 : decode m_M_rank.2.1 88 = .ok (.aload_n 0, 1) := by decide +kernel
theorem q_M_rank_89 : decode m_M_rank.2.1 89 = .ok (.getfield 7, 3) := by decide +kernel
theorem q_M_rank_92 : decode m_M_rank.2.1 92 = .ok (.iload 4, 2) := by decide +kernel
theorem q_M_rank_94 : decode m_M_rank.2.1 94 = .ok (.iaload, 1) := by decide +kernel
theorem q_M_rank_95 : decode m_M_rank.2.1 95 = .ok (.aload_n 0, 1) := by decide +kernel
