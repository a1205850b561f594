theorem q_B_init_0 : decode m_B_init.2.1 0 = .ok (.aload_n 0, 1) := by decide +kernel
theorem q_B_init_1 : decode m_B_init.2.1 1 = .ok (.invokespecial 3, 3) := by decide +kernel
theorem q_B_init_4 : decode m_B_init.2.1 4 = .ok (.aload_n 0, 1) := by decide +kernel
theorem q_B_init_5 : decode m_B_init.2.1 5 = .ok (.new 9, 3) := by decide +kernel
theorem q_B_init_8 : decode m_B_init.2.1 8 = .ok (.dup, 1) := by decide +kernel
theorem q_B_init_9 : decode m_B_init.2.1 9 = .ok (.iconst 1, 1) := by decide +kernel
theorem q_B_init_10 : decode m_B_init.2.1 10 = .ok (.bipush 6, 2) := by decide +kernel
theorem q_B_init_12 : decode m_B_init.2.1 12 = .ok (.iload_n 1, 1) := by decide +kernel
theorem q_B_init_13 : decode m_B_init.2.1 13 = .ok (.invokestatic 11, 3) := by decide +kernel
theorem q_B_init_16 : decode m_B_init.2.1 16 = .ok (.invokestatic 17, 3) := by decide +kernel
theorem q_B_init_19 : decode m_B_init.2.1 19 = .ok (.invokespecial 20, 3) := by decide +kernel
theorem q_B_init_22 : decode m_B_init.2.1 22 = .ok (.putfield 23, 3) := by decide +kernel
theorem q_B_init_25 : decode m_B_init.2.1 25 = .ok (.aload_n 0, 1) := by decide +kernel
theorem q_B_init_26 : decode m_B_init.2.1 26 = .ok (.new 27, 3) := by decide +kernel
theorem q_B_init_29 : decode m_B_init.2.1 29 = .ok (.dup, 1) := by decide +kernel
theorem q_B_init_30 : decode m_B_init.2.1 30 = .ok (.aload_n 0, 1) := by decide +kernel
theorem q_B_init_31 : decode m_B_init.2.1 31 = .ok (.getfield 23, 3) := by decide +kernel
theorem q_B_init_34 : decode m_B_init.2.1 34 = .ok (.invokespecial 29, 3) := by decide +kernel
theorem q_B_init_37 : decode m_B_init.2.1 37 = .ok (.putfield 32, 3) := by decide +kernel
theorem q_B_init_40 : decode m_B_init.2.1 40 = .ok (.aload_n 0, 1) := by decide +kernel
theorem q_B_init_41 : decode m_B_init.2.1 41 = .ok (.new 36, 3) := by decide +kernel
theorem q_B_init_44 : decode m_B_init.2.1 44 = .ok (.dup, 1) := by decide +kernel
theorem q_B_init_45 : decode m_B_init.2.1 45 = .ok (.aload_n 0, 1) := by decide +kernel
theorem q_B_init_46 : decode m_B_init.2.1 46 = .ok (.getfield 23, 3) := by decide +kernel
theorem q_B_init_49 : decode m_B_init.2.1 49 = .ok (.invokespecial 38, 3) := by decide +kernel
theorem q_B_init_52 : decode m_B_init.2.1 52 = .ok (.putfield 39, 3) := by decide +kernel
theorem q_B_init_55 : decode m_B_init.2.1 55 = .ok (.aload_n 0, 1) := by decide +kernel
theorem q_B_init_56 : decode m_B_init.2.1 56 = .ok (.new 43, 3) := by decide +kernel
theorem q_B_init_59 : decode m_B_init.2.1 59 = .ok (.dup, 1) := by decide +kernel
theorem q_B_init_60 : decode m_B_init.2.1 60 = .ok (.aload_n 0, 1) := by decide +kernel
theorem q_B_init_61 : decode m_B_init.2.1 61 = .ok (.getfield 23, 3) := by decide +kernel
theorem q_B_init_64 : decode m_B_init.2.1 64 = .ok (.invokespecial 45, 3) := by decide +kernel
theorem q_B_init_67 : decode m_B_init.2.1 67 = .ok (.putfield 46, 3) := by decide +kernel
theorem q_B_init_70 : decode m_B_init.2.1 70 = .ok (.aload_n 0, 1) := by decide +kernel
theorem q_B_init_71 : decode m_B_init.2.1 71 = .ok (.iconst (-1), 1) := by decide +kernel
theorem q_B_init_72 : decode m_B_init.2.1 72 = .ok (.putfield 50, 3) := by decide +kernel
theorem q_B_init_75 : decode m_B_init.2.1 75 = .ok (.return_, 1) := by decide +kernel
theorem q_B_thing_0 : decode m_B_thing.2.1 0 = .ok (.iload_n 1, 1) := by decide +kernel
theorem q_B_thing_1 : decode m_B_thing.2.1 1 = .ok (.ifCond .lt 22, 3) := by decide +kernel
theorem q_B_thing_4 : decode m_B_thing.2.1 4 = .ok (.iload_n 1, 1) := by decide +kernel
theorem q_B_thing_5 : decode m_B_thing.2.1 5 = .ok (.sipush 999, 3) := by decide +kernel
theorem q_B_thing_8 : decode m_B_thing.2.1 8 = .ok (.if_icmp .gt 15, 3) := by decide +kernel
theorem q_B_thing_11 : decode m_B_thing.2.1 11 = .ok (.aload_n 0, 1) := by decide +kernel
theorem q_B_thing_12 : decode m_B_thing.2.1 12 = .ok (.getfield 23, 3) := by decide +kernel
theorem q_B_thing_15 : decode m_B_thing.2.1 15 = .ok (.getfield 54, 3) := by decide +kernel
theorem q_B_thing_18 : decode m_B_thing.2.1 18 = .ok (.bipush 12, 2) := by decide +kernel
theorem q_B_thing_20 : decode m_B_thing.2.1 20 = .ok (.if_icmp .lt 5, 3) := by decide +kernel
theorem q_B_thing_23 : decode m_B_thing.2.1 23 = .ok (.iconst (-1), 1) := by decide +kernel
theorem q_B_thing_24 : decode m_B_thing.2.1 24 = .ok (.ireturn, 1) := by decide +kernel
theorem q_B_thing_25 : decode m_B_thing.2.1 25 = .ok (.aload_n 0, 1) := by decide +kernel
theorem q_B_thing_26 : decode m_B_thing.2.1 26 = .ok (.invokevirtual 57, 3) := by decide +kernel
theorem q_B_thing_29 : decode m_B_thing.2.1 29 = .ok (.aload_n 0, 1) := by decide +kernel
theorem q_B_thing_30 : decode m_B_thing.2.1 30 = .ok (.getfield 23, 3) := by decide +kernel
theorem q_B_thing_33 : decode m_B_thing.2.1 33 = .ok (.iload_n 1, 1) := by decide +kernel
theorem q_B_thing_34 : decode m_B_thing.2.1 34 = .ok (.invokevirtual 60, 3) := by decide +kernel
theorem q_B_thing_37 : decode m_B_thing.2.1 37 = .ok (.ireturn, 1) := by decide +kernel
theorem q_B_choice_0 : decode m_B_choice.2.1 0 = .ok (.aload_n 0, 1) := by decide +kernel
theorem q_B_choice_1 : decode m_B_choice.2.1 1 = .ok (.getfield 23, 3) := by decide +kernel
theorem q_B_choice_4 : decode m_B_choice.2.1 4 = .ok (.iload_n 1, 1) := by decide +kernel
theorem q_B_choice_5 : decode m_B_choice.2.1 5 = .ok (.invokevirtual 64, 3) := by decide +kernel
theorem q_B_choice_8 : decode m_B_choice.2.1 8 = .ok (.ifCond .eq 26, 3) := by decide +kernel
theorem q_B_choice_11 : decode m_B_choice.2.1 11 = .ok (.aload_n 0, 1) := by decide +kernel
theorem q_B_choice_12 : decode m_B_choice.2.1 12 = .ok (.getfield 23, 3) := by decide +kernel
theorem q_B_choice_15 : decode m_B_choice.2.1 15 = .ok (.iload_n 2, 1) := by decide +kernel
theorem q_B_choice_16 : decode m_B_choice.2.1 16 = .ok (.invokevirtual 68, 3) := by decide +kernel
theorem q_B_choice_19 : decode m_B_choice.2.1 19 = .ok (.ifCond .eq 15, 3) := by decide +kernel
theorem q_B_choice_22 : decode m_B_choice.2.1 22 = .ok (.aload_n 0, 1) := by decide +kernel
theorem q_B_choice_23 : decode m_B_choice.2.1 23 = .ok (.getfield 23, 3) := by decide +kernel
theorem q_B_choice_26 : decode m_B_choice.2.1 26 = .ok (.getfield 71, 3) := by decide +kernel
theorem q_B_choice_29 : decode m_B_choice.2.1 29 = .ok (.bipush 14, 2) := by decide +kernel
theorem q_B_choice_31 : decode m_B_choice.2.1 31 = .ok (.if_icmp .lt 5, 3) := by decide +kernel
theorem q_B_choice_34 : decode m_B_choice.2.1 34 = .ok (.iconst (-1), 1) := by decide +kernel
theorem q_B_choice_35 : decode m_B_choice.2.1 35 = .ok (.ireturn, 1) := by decide +kernel
theorem q_B_choice_36 : decode m_B_choice.2.1 36 = .ok (.lload_n 3, 1) := by decide +kernel
theorem q_B_choice_37 : decode m_B_choice.2.1 37 = .ok (.ldc2_w 74, 3) := by decide +kernel
theorem q_B_choice_40 : decode m_B_choice.2.1 40 = .ok (.invokestatic 76, 3) := by decide +kernel
theorem q_B_choice_43 : decode m_B_choice.2.1 43 = .ok (.ifCond .eq 14, 3) := by decide +kernel
theorem q_B_choice_46 : decode m_B_choice.2.1 46 = .ok (.lload 5, 2) := by decide +kernel
theorem q_B_choice_48 : decode m_B_choice.2.1 48 = .ok (.ldc2_w 74, 3) := by decide +kernel
theorem q_B_choice_51 : decode m_B_choice.2.1 51 = .ok (.invokestatic 76, 3) := by decide +kernel
theorem q_B_choice_54 : decode m_B_choice.2.1 54 = .ok (.ifCond .ne 5, 3) := by decide +kernel
theorem q_B_choice_57 : decode m_B_choice.2.1 57 = .ok (.iconst (-1), 1) := by decide +kernel
theorem q_B_choice_58 : decode m_B_choice.2.1 58 = .ok (.ireturn, 1) := by decide +kernel
theorem q_B_choice_59 : decode m_B_choice.2.1 59 = .ok (.aload_n 0, 1) := by decide +kernel
theorem q_B_choice_60 : decode m_B_choice.2.1 60 = .ok (.invokevirtual 57, 3) := by decide +kernel
theorem q_B_choice_63 : decode m_B_choice.2.1 63 = .ok (.aload_n 0, 1) := by decide +kernel
theorem q_B_choice_64 : decode m_B_choice.2.1 64 = .ok (.getfield 23, 3) := by decide +kernel
theorem q_B_choice_67 : decode m_B_choice.2.1 67 = .ok (.iload_n 1, 1) := by decide +kernel
theorem q_B_choice_68 : decode m_B_choice.2.1 68 = .ok (.iload_n 2, 1) := by decide +kernel
theorem q_B_choice_69 : decode m_B_choice.2.1 69 = .ok (.lload_n 3, 1) := by decide +kernel
theorem q_B_choice_70 : decode m_B_choice.2.1 70 = .ok (.lload 5, 2) := by decide +kernel
theorem q_B_choice_72 : decode m_B_choice.2.1 72 = .ok (.invokevirtual 80, 3) := by decide +kernel
theorem q_B_choice_75 : decode m_B_choice.2.1 75 = .ok (.ireturn, 1) := by decide +kernel
theorem q_B_must_0 : decode m_B_must.2.1 0 = .ok (.aload_n 0, 1) := by decide +kernel
theorem q_B_must_1 : decode m_B_must.2.1 1 = .ok (.getfield 23, 3) := by decide +kernel
theorem q_B_must_4 : decode m_B_must.2.1 4 = .ok (.iload_n 1, 1) := by decide +kernel
theorem q_B_must_5 : decode m_B_must.2.1 5 = .ok (.invokevirtual 84, 3) := by decide +kernel
theorem q_B_must_8 : decode m_B_must.2.1 8 = .ok (.ifCond .eq 17, 3) := by decide +kernel
theorem q_B_must_11 : decode m_B_must.2.1 11 = .ok (.aload_n 0, 1) := by decide +kernel
theorem q_B_must_12 : decode m_B_must.2.1 12 = .ok (.getfield 23, 3) := by decide +kernel
theorem q_B_must_15 : decode m_B_must.2.1 15 = .ok (.getfield 87, 3) := by decide +kernel
theorem q_B_must_18 : decode m_B_must.2.1 18 = .ok (.iload_n 1, 1) := by decide +kernel
theorem q_B_must_19 : decode m_B_must.2.1 19 = .ok (.invokestatic 90, 3) := by decide +kernel
theorem q_B_must_22 : decode m_B_must.2.1 22 = .ok (.ifCond .eq 5, 3) := by decide +kernel
theorem q_B_must_25 : decode m_B_must.2.1 25 = .ok (.iconst 0, 1) := by decide +kernel
theorem q_B_must_26 : decode m_B_must.2.1 26 = .ok (.ireturn, 1) := by decide +kernel
theorem q_B_must_27 : decode m_B_must.2.1 27 = .ok (.aload_n 0, 1) := by decide +kernel
theorem q_B_must_28 : decode m_B_must.2.1 28 = .ok (.invokevirtual 57, 3) := by decide +kernel
theorem q_B_must_31 : decode m_B_must.2.1 31 = .ok (.aload_n 0, 1) := by decide +kernel
theorem q_B_must_32 : decode m_B_must.2.1 32 = .ok (.getfield 23, 3) := by decide +kernel
theorem q_B_must_35 : decode m_B_must.2.1 35 = .ok (.dup, 1) := by decide +kernel
theorem q_B_must_36 : decode m_B_must.2.1 36 = .ok (.getfield 87, 3) := by decide +kernel
theorem q_B_must_39 : decode m_B_must.2.1 39 = .ok (.iconst 1, 1) := by decide +kernel
theorem q_B_must_40 : decode m_B_must.2.1 40 = .ok (.iload_n 1, 1) := by decide +kernel
theorem q_B_must_41 : decode m_B_must.2.1 41 = .ok (.ishl, 1) := by decide +kernel
theorem q_B_must_42 : decode m_B_must.2.1 42 = .ok (.ior, 1) := by decide +kernel
theorem q_B_must_43 : decode m_B_must.2.1 43 = .ok (.putfield 87, 3) := by decide +kernel
theorem q_B_must_46 : decode m_B_must.2.1 46 = .ok (.iconst 1, 1) := by decide +kernel
theorem q_B_must_47 : decode m_B_must.2.1 47 = .ok (.ireturn, 1) := by decide +kernel
theorem q_B_budget_0 : decode m_B_budget.2.1 0 = .ok (.aload_n 0, 1) := by decide +kernel
theorem q_B_budget_1 : decode m_B_budget.2.1 1 = .ok (.getfield 23, 3) := by decide +kernel
theorem q_B_budget_4 : decode m_B_budget.2.1 4 = .ok (.iload_n 1, 1) := by decide +kernel
theorem q_B_budget_5 : decode m_B_budget.2.1 5 = .ok (.invokevirtual 68, 3) := by decide +kernel
theorem q_B_budget_8 : decode m_B_budget.2.1 8 = .ok (.ifCond .eq 13, 3) := by decide +kernel
theorem q_B_budget_11 : decode m_B_budget.2.1 11 = .ok (.lload_n 2, 1) := by decide +kernel
theorem q_B_budget_12 : decode m_B_budget.2.1 12 = .ok (.ldc2_w 94, 3) := by decide +kernel
theorem q_B_budget_15 : decode m_B_budget.2.1 15 = .ok (.invokestatic 76, 3) := by decide +kernel
theorem q_B_budget_18 : decode m_B_budget.2.1 18 = .ok (.ifCond .ne 5, 3) := by decide +kernel
theorem q_B_budget_21 : decode m_B_budget.2.1 21 = .ok (.iconst 0, 1) := by decide +kernel
theorem q_B_budget_22 : decode m_B_budget.2.1 22 = .ok (.ireturn, 1) := by decide +kernel
theorem q_B_budget_23 : decode m_B_budget.2.1 23 = .ok (.aload_n 0, 1) := by decide +kernel
theorem q_B_budget_24 : decode m_B_budget.2.1 24 = .ok (.invokevirtual 57, 3) := by decide +kernel
theorem q_B_budget_27 : decode m_B_budget.2.1 27 = .ok (.aload_n 0, 1) := by decide +kernel
theorem q_B_budget_28 : decode m_B_budget.2.1 28 = .ok (.getfield 23, 3) := by decide +kernel
theorem q_B_budget_31 : decode m_B_budget.2.1 31 = .ok (.getfield 96, 3) := by decide +kernel
theorem q_B_budget_34 : decode m_B_budget.2.1 34 = .ok (.iload_n 1, 1) := by decide +kernel
theorem q_B_budget_35 : decode m_B_budget.2.1 35 = .ok (.lload_n 2, 1) := by decide +kernel
theorem q_B_budget_36 : decode m_B_budget.2.1 36 = .ok (.lastore, 1) := by decide +kernel
theorem q_B_budget_37 : decode m_B_budget.2.1 37 = .ok (.iconst 1, 1) := by decide +kernel
theorem q_B_budget_38 : decode m_B_budget.2.1 38 = .ok (.ireturn, 1) := by decide +kernel
theorem q_B_join_0 : decode m_B_join.2.1 0 = .ok (.aload_n 0, 1) := by decide +kernel
theorem q_B_join_1 : decode m_B_join.2.1 1 = .ok (.getfield 23, 3) := by decide +kernel
theorem q_B_join_4 : decode m_B_join.2.1 4 = .ok (.iload_n 1, 1) := by decide +kernel
theorem q_B_join_5 : decode m_B_join.2.1 5 = .ok (.invokevirtual 84, 3) := by decide +kernel
theorem q_B_join_8 : decode m_B_join.2.1 8 = .ok (.ifCond .eq 24, 3) := by decide +kernel
theorem q_B_join_11 : decode m_B_join.2.1 11 = .ok (.aload_n 0, 1) := by decide +kernel
theorem q_B_join_12 : decode m_B_join.2.1 12 = .ok (.getfield 23, 3) := by decide +kernel
theorem q_B_join_15 : decode m_B_join.2.1 15 = .ok (.iload_n 2, 1) := by decide +kernel
theorem q_B_join_16 : decode m_B_join.2.1 16 = .ok (.invokevirtual 84, 3) := by decide +kernel
theorem q_B_join_19 : decode m_B_join.2.1 19 = .ok (.ifCond .eq 13, 3) := by decide +kernel
theorem q_B_join_22 : decode m_B_join.2.1 22 = .ok (.lload_n 3, 1) := by decide +kernel
theorem q_B_join_23 : decode m_B_join.2.1 23 = .ok (.ldc2_w 74, 3) := by decide +kernel
theorem q_B_join_26 : decode m_B_join.2.1 26 = .ok (.invokestatic 76, 3) := by decide +kernel
theorem q_B_join_29 : decode m_B_join.2.1 29 = .ok (.ifCond .ne 5, 3) := by decide +kernel
theorem q_B_join_32 : decode m_B_join.2.1 32 = .ok (.iconst 0, 1) := by decide +kernel
theorem q_B_join_33 : decode m_B_join.2.1 33 = .ok (.ireturn, 1) := by decide +kernel
theorem q_B_join_34 : decode m_B_join.2.1 34 = .ok (.aload_n 0, 1) := by decide +kernel
theorem q_B_join_35 : decode m_B_join.2.1 35 = .ok (.getfield 23, 3) := by decide +kernel
theorem q_B_join_38 : decode m_B_join.2.1 38 = .ok (.iload_n 1, 1) := by decide +kernel
theorem q_B_join_39 : decode m_B_join.2.1 39 = .ok (.iload_n 2, 1) := by decide +kernel
theorem q_B_join_40 : decode m_B_join.2.1 40 = .ok (.invokevirtual 100, 3) := by decide +kernel
theorem q_B_join_43 : decode m_B_join.2.1 43 = .ok (.ifCond .eq 15, 3) := by decide +kernel
theorem q_B_join_46 : decode m_B_join.2.1 46 = .ok (.aload_n 0, 1) := by decide +kernel
theorem q_B_join_47 : decode m_B_join.2.1 47 = .ok (.getfield 23, 3) := by decide +kernel
theorem q_B_join_50 : decode m_B_join.2.1 50 = .ok (.getfield 103, 3) := by decide +kernel
theorem q_B_join_53 : decode m_B_join.2.1 53 = .ok (.bipush 20, 2) := by decide +kernel
theorem q_B_join_55 : decode m_B_join.2.1 55 = .ok (.if_icmp .lt 5, 3) := by decide +kernel
theorem q_B_join_58 : decode m_B_join.2.1 58 = .ok (.iconst 0, 1) := by decide +kernel
theorem q_B_join_59 : decode m_B_join.2.1 59 = .ok (.ireturn, 1) := by decide +kernel
theorem q_B_join_60 : decode m_B_join.2.1 60 = .ok (.aload_n 0, 1) := by decide +kernel
theorem q_B_join_61 : decode m_B_join.2.1 61 = .ok (.invokevirtual 57, 3) := by decide +kernel
theorem q_B_join_64 : decode m_B_join.2.1 64 = .ok (.aload_n 0, 1) := by decide +kernel
theorem q_B_join_65 : decode m_B_join.2.1 65 = .ok (.getfield 23, 3) := by decide +kernel
theorem q_B_join_68 : decode m_B_join.2.1 68 = .ok (.iload_n 1, 1) := by decide +kernel
theorem q_B_join_69 : decode m_B_join.2.1 69 = .ok (.iload_n 2, 1) := by decide +kernel
theorem q_B_join_70 : decode m_B_join.2.1 70 = .ok (.lload_n 3, 1) := by decide +kernel
theorem q_B_join_71 : decode m_B_join.2.1 71 = .ok (.invokevirtual 106, 3) := by decide +kernel
theorem q_B_join_74 : decode m_B_join.2.1 74 = .ok (.iconst 1, 1) := by decide +kernel
theorem q_B_join_75 : decode m_B_join.2.1 75 = .ok (.ireturn, 1) := by decide +kernel
theorem q_B_district_0 : decode m_B_district.2.1 0 = .ok (.aload_n 0, 1) := by decide +kernel
theorem q_B_district_1 : decode m_B_district.2.1 1 = .ok (.getfield 23, 3) := by decide +kernel
theorem q_B_district_4 : decode m_B_district.2.1 4 = .ok (.iload_n 1, 1) := by decide +kernel
theorem q_B_district_5 : decode m_B_district.2.1 5 = .ok (.invokevirtual 64, 3) := by decide +kernel
theorem q_B_district_8 : decode m_B_district.2.1 8 = .ok (.ifCond .eq 10, 3) := by decide +kernel
theorem q_B_district_11 : decode m_B_district.2.1 11 = .ok (.iload_n 2, 1) := by decide +kernel
theorem q_B_district_12 : decode m_B_district.2.1 12 = .ok (.invokestatic 110, 3) := by decide +kernel
theorem q_B_district_15 : decode m_B_district.2.1 15 = .ok (.ifCond .ne 5, 3) := by decide +kernel
theorem q_B_district_18 : decode m_B_district.2.1 18 = .ok (.iconst 0, 1) := by decide +kernel
theorem q_B_district_19 : decode m_B_district.2.1 19 = .ok (.ireturn, 1) := by decide +kernel
theorem q_B_district_20 : decode m_B_district.2.1 20 = .ok (.aload_n 0, 1) := by decide +kernel
theorem q_B_district_21 : decode m_B_district.2.1 21 = .ok (.invokevirtual 57, 3) := by decide +kernel
theorem q_B_district_24 : decode m_B_district.2.1 24 = .ok (.aload_n 0, 1) := by decide +kernel
theorem q_B_district_25 : decode m_B_district.2.1 25 = .ok (.getfield 23, 3) := by decide +kernel
theorem q_B_district_28 : decode m_B_district.2.1 28 = .ok (.getfield 113, 3) := by decide +kernel
theorem q_B_district_31 : decode m_B_district.2.1 31 = .ok (.iload_n 1, 1) := by decide +kernel
theorem q_B_district_32 : decode m_B_district.2.1 32 = .ok (.iload_n 2, 1) := by decide +kernel
theorem q_B_district_33 : decode m_B_district.2.1 33 = .ok (.iastore, 1) := by decide +kernel
theorem q_B_district_34 : decode m_B_district.2.1 34 = .ok (.iconst 1, 1) := by decide +kernel
theorem q_B_district_35 : decode m_B_district.2.1 35 = .ok (.ireturn, 1) := by decide +kernel
theorem q_B_fair_0 : decode m_B_fair.2.1 0 = .ok (.lload_n 1, 1) := by decide +kernel
theorem q_B_fair_1 : decode m_B_fair.2.1 1 = .ok (.ldc2_w 117, 3) := by decide +kernel
theorem q_B_fair_4 : decode m_B_fair.2.1 4 = .ok (.lcmp, 1) := by decide +kernel
theorem q_B_fair_5 : decode m_B_fair.2.1 5 = .ok (.ifCond .le 5, 3) := by decide +kernel
theorem q_B_fair_8 : decode m_B_fair.2.1 8 = .ok (.iconst 0, 1) := by decide +kernel
theorem q_B_fair_9 : decode m_B_fair.2.1 9 = .ok (.ireturn, 1) := by decide +kernel
theorem q_B_fair_10 : decode m_B_fair.2.1 10 = .ok (.aload_n 0, 1) := by decide +kernel
theorem q_B_fair_11 : decode m_B_fair.2.1 11 = .ok (.invokevirtual 57, 3) := by decide +kernel
theorem q_B_fair_14 : decode m_B_fair.2.1 14 = .ok (.aload_n 0, 1) := by decide +kernel
theorem q_B_fair_15 : decode m_B_fair.2.1 15 = .ok (.getfield 23, 3) := by decide +kernel
theorem q_B_fair_18 : decode m_B_fair.2.1 18 = .ok (.lload_n 1, 1) := by decide +kernel
theorem q_B_fair_19 : decode m_B_fair.2.1 19 = .ok (.lconst 0, 1) := by decide +kernel
theorem q_B_fair_20 : decode m_B_fair.2.1 20 = .ok (.lcmp, 1) := by decide +kernel
theorem q_B_fair_21 : decode m_B_fair.2.1 21 = .ok (.ifCond .ge 9, 3) := by decide +kernel
theorem q_B_fair_24 : decode m_B_fair.2.1 24 = .ok (.ldc2_w 119, 3) := by decide +kernel
theorem q_B_fair_27 : decode m_B_fair.2.1 27 = .ok (.goto 4, 3) := by decide +kernel
theorem q_B_fair_30 : decode m_B_fair.2.1 30 = .ok (.lload_n 1, 1) := by decide +kernel
theorem q_B_fair_31 : decode m_B_fair.2.1 31 = .ok (.putfield 121, 3) := by decide +kernel
theorem q_B_fair_34 : decode m_B_fair.2.1 34 = .ok (.iconst 1, 1) := by decide +kernel
theorem q_B_fair_35 : decode m_B_fair.2.1 35 = .ok (.ireturn, 1) := by decide +kernel
theorem q_B_run_0 : decode m_B_run.2.1 0 = .ok (.lload_n 1, 1) := by decide +kernel
theorem q_B_run_1 : decode m_B_run.2.1 1 = .ok (.invokestatic 125, 3) := by decide +kernel
theorem q_B_run_4 : decode m_B_run.2.1 4 = .ok (.ifCond .ne 5, 3) := by decide +kernel
theorem q_B_run_7 : decode m_B_run.2.1 7 = .ok (.iconst (-1), 1) := by decide +kernel
theorem q_B_run_8 : decode m_B_run.2.1 8 = .ok (.ireturn, 1) := by decide +kernel
theorem q_B_run_9 : decode m_B_run.2.1 9 = .ok (.aload_n 0, 1) := by decide +kernel
theorem q_B_run_10 : decode m_B_run.2.1 10 = .ok (.aload_n 0, 1) := by decide +kernel
theorem q_B_run_11 : decode m_B_run.2.1 11 = .ok (.getfield 32, 3) := by decide +kernel
theorem q_B_run_14 : decode m_B_run.2.1 14 = .ok (.lload_n 1, 1) := by decide +kernel
theorem q_B_run_15 : decode m_B_run.2.1 15 = .ok (.invokevirtual 129, 3) := by decide +kernel
theorem q_B_run_18 : decode m_B_run.2.1 18 = .ok (.putfield 50, 3) := by decide +kernel
theorem q_B_run_21 : decode m_B_run.2.1 21 = .ok (.lload_n 1, 1) := by decide +kernel
theorem q_B_run_22 : decode m_B_run.2.1 22 = .ok (.aload_n 0, 1) := by decide +kernel
theorem q_B_run_23 : decode m_B_run.2.1 23 = .ok (.getfield 23, 3) := by decide +kernel
theorem q_B_run_26 : decode m_B_run.2.1 26 = .ok (.invokevirtual 133, 3) := by decide +kernel
theorem q_B_run_29 : decode m_B_run.2.1 29 = .ok (.i2l, 1) := by decide +kernel
theorem q_B_run_30 : decode m_B_run.2.1 30 = .ok (.lcmp, 1) := by decide +kernel
theorem q_B_run_31 : decode m_B_run.2.1 31 = .ok (.ifCond .lt 7, 3) := by decide +kernel
theorem q_B_run_34 : decode m_B_run.2.1 34 = .ok (.iconst 1, 1) := by decide +kernel
theorem q_B_run_35 : decode m_B_run.2.1 35 = .ok (.goto 4, 3) := by decide +kernel
theorem q_B_run_38 : decode m_B_run.2.1 38 = .ok (.iconst 0, 1) := by decide +kernel
theorem q_B_run_39 : decode m_B_run.2.1 39 = .ok (.istore_n 3, 1) := by decide +kernel
theorem q_B_run_40 : decode m_B_run.2.1 40 = .ok (.aload_n 0, 1) := by decide +kernel
theorem q_B_run_41 : decode m_B_run.2.1 41 = .ok (.iload_n 3, 1) := by decide +kernel
theorem q_B_run_42 : decode m_B_run.2.1 42 = .ok (.putfield 137, 3) := by decide +kernel
theorem q_B_run_45 : decode m_B_run.2.1 45 = .ok (.iload_n 3, 1) := by decide +kernel
theorem q_B_run_46 : decode m_B_run.2.1 46 = .ok (.ifCond .ne 5, 3) := by decide +kernel
theorem q_B_run_49 : decode m_B_run.2.1 49 = .ok (.iconst 1, 1) := by decide +kernel
theorem q_B_run_50 : decode m_B_run.2.1 50 = .ok (.ireturn, 1) := by decide +kernel
theorem q_B_run_51 : decode m_B_run.2.1 51 = .ok (.aload_n 0, 1) := by decide +kernel
theorem q_B_run_52 : decode m_B_run.2.1 52 = .ok (.getfield 50, 3) := by decide +kernel
theorem q_B_run_55 : decode m_B_run.2.1 55 = .ok (.iconst (-1), 1) := by decide +kernel
theorem q_B_run_56 : decode m_B_run.2.1 56 = .ok (.if_icmp .ne 7, 3) := by decide +kernel
theorem q_B_run_59 : decode m_B_run.2.1 59 = .ok (.iconst 2, 1) := by decide +kernel
theorem q_B_run_60 : decode m_B_run.2.1 60 = .ok (.goto 4, 3) := by decide +kernel
theorem q_B_run_63 : decode m_B_run.2.1 63 = .ok (.iconst 0, 1) := by decide +kernel
theorem q_B_run_64 : decode m_B_run.2.1 64 = .ok (.ireturn, 1) := by decide +kernel
theorem q_B_chosen_0 : decode m_B_chosen.2.1 0 = .ok (.aload_n 0, 1) := by decide +kernel
theorem q_B_chosen_1 : decode m_B_chosen.2.1 1 = .ok (.getfield 23, 3) := by decide +kernel
theorem q_B_chosen_4 : decode m_B_chosen.2.1 4 = .ok (.iload_n 1, 1) := by decide +kernel
theorem q_B_chosen_5 : decode m_B_chosen.2.1 5 = .ok (.invokevirtual 84, 3) := by decide +kernel
theorem q_B_chosen_8 : decode m_B_chosen.2.1 8 = .ok (.ifCond .eq 18, 3) := by decide +kernel
theorem q_B_chosen_11 : decode m_B_chosen.2.1 11 = .ok (.aload_n 0, 1) := by decide +kernel
theorem q_B_chosen_12 : decode m_B_chosen.2.1 12 = .ok (.invokevirtual 141, 3) := by decide +kernel
theorem q_B_chosen_15 : decode m_B_chosen.2.1 15 = .ok (.iload_n 1, 1) := by decide +kernel
theorem q_B_chosen_16 : decode m_B_chosen.2.1 16 = .ok (.invokestatic 90, 3) := by decide +kernel
theorem q_B_chosen_19 : decode m_B_chosen.2.1 19 = .ok (.ifCond .eq 7, 3) := by decide +kernel
theorem q_B_chosen_22 : decode m_B_chosen.2.1 22 = .ok (.iconst 1, 1) := by decide +kernel
theorem q_B_chosen_23 : decode m_B_chosen.2.1 23 = .ok (.goto 4, 3) := by decide +kernel
theorem q_B_chosen_26 : decode m_B_chosen.2.1 26 = .ok (.iconst 0, 1) := by decide +kernel
theorem q_B_chosen_27 : decode m_B_chosen.2.1 27 = .ok (.ireturn, 1) := by decide +kernel
theorem q_B_worth_0 : decode m_B_worth.2.1 0 = .ok (.aload_n 0, 1) := by decide +kernel
theorem q_B_worth_1 : decode m_B_worth.2.1 1 = .ok (.getfield 50, 3) := by decide +kernel
theorem q_B_worth_4 : decode m_B_worth.2.1 4 = .ok (.iconst (-1), 1) := by decide +kernel
theorem q_B_worth_5 : decode m_B_worth.2.1 5 = .ok (.if_icmp .ne 9, 3) := by decide +kernel
theorem q_B_worth_8 : decode m_B_worth.2.1 8 = .ok (.ldc2_w 119, 3) := by decide +kernel
theorem q_B_worth_11 : decode m_B_worth.2.1 11 = .ok (.goto 14, 3) := by decide +kernel
theorem q_B_worth_14 : decode m_B_worth.2.1 14 = .ok (.aload_n 0, 1) := by decide +kernel
theorem q_B_worth_15 : decode m_B_worth.2.1 15 = .ok (.getfield 23, 3) := by decide +kernel
theorem q_B_worth_18 : decode m_B_worth.2.1 18 = .ok (.aload_n 0, 1) := by decide +kernel
theorem q_B_worth_19 : decode m_B_worth.2.1 19 = .ok (.getfield 50, 3) := by decide +kernel
theorem q_B_worth_22 : decode m_B_worth.2.1 22 = .ok (.invokevirtual 144, 3) := by decide +kernel
theorem q_B_worth_25 : decode m_B_worth.2.1 25 = .ok (.lreturn, 1) := by decide +kernel
theorem q_B_bound_0 : decode m_B_bound.2.1 0 = .ok (.iload_n 1, 1) := by decide +kernel
theorem q_B_bound_1 : decode m_B_bound.2.1 1 = .ok (.ifCond .ne 11, 3) := by decide +kernel
theorem q_B_bound_4 : decode m_B_bound.2.1 4 = .ok (.aload_n 0, 1) := by decide +kernel
theorem q_B_bound_5 : decode m_B_bound.2.1 5 = .ok (.getfield 39, 3) := by decide +kernel
theorem q_B_bound_8 : decode m_B_bound.2.1 8 = .ok (.invokevirtual 148, 3) := by decide +kernel
theorem q_B_bound_11 : decode m_B_bound.2.1 11 = .ok (.lreturn, 1) := by decide +kernel
theorem q_B_bound_12 : decode m_B_bound.2.1 12 = .ok (.iload_n 1, 1) := by decide +kernel
theorem q_B_bound_13 : decode m_B_bound.2.1 13 = .ok (.iconst 1, 1) := by decide +kernel
theorem q_B_bound_14 : decode m_B_bound.2.1 14 = .ok (.if_icmp .ne 14, 3) := by decide +kernel
theorem q_B_bound_17 : decode m_B_bound.2.1 17 = .ok (.aload_n 0, 1) := by decide +kernel
theorem q_B_bound_18 : decode m_B_bound.2.1 18 = .ok (.getfield 39, 3) := by decide +kernel
theorem q_B_bound_21 : decode m_B_bound.2.1 21 = .ok (.lconst 0, 1) := by decide +kernel
theorem q_B_bound_22 : decode m_B_bound.2.1 22 = .ok (.invokevirtual 152, 3) := by decide +kernel
theorem q_B_bound_25 : decode m_B_bound.2.1 25 = .ok (.goto 6, 3) := by decide +kernel
theorem q_B_bound_28 : decode m_B_bound.2.1 28 = .ok (.ldc2_w 119, 3) := by decide +kernel
theorem q_B_bound_31 : decode m_B_bound.2.1 31 = .ok (.lreturn, 1) := by decide +kernel
theorem q_B_clash_0 : decode m_B_clash.2.1 0 = .ok (.aload_n 0, 1) := by decide +kernel
theorem q_B_clash_1 : decode m_B_clash.2.1 1 = .ok (.getfield 156, 3) := by decide +kernel
theorem q_B_clash_4 : decode m_B_clash.2.1 4 = .ok (.ifCond .ne 37, 3) := by decide +kernel
theorem q_B_clash_7 : decode m_B_clash.2.1 7 = .ok (.aload_n 0, 1) := by decide +kernel
theorem q_B_clash_8 : decode m_B_clash.2.1 8 = .ok (.aload_n 0, 1) := by decide +kernel
theorem q_B_clash_9 : decode m_B_clash.2.1 9 = .ok (.getfield 32, 3) := by decide +kernel
theorem q_B_clash_12 : decode m_B_clash.2.1 12 = .ok (.aload_n 0, 1) := by decide +kernel
theorem q_B_clash_13 : decode m_B_clash.2.1 13 = .ok (.getfield 23, 3) := by decide +kernel
theorem q_B_clash_16 : decode m_B_clash.2.1 16 = .ok (.getfield 87, 3) := by decide +kernel
theorem q_B_clash_19 : decode m_B_clash.2.1 19 = .ok (.invokevirtual 159, 3) := by decide +kernel
theorem q_B_clash_22 : decode m_B_clash.2.1 22 = .ok (.ifCond .eq 7, 3) := by decide +kernel
theorem q_B_clash_25 : decode m_B_clash.2.1 25 = .ok (.iconst 0, 1) := by decide +kernel
theorem q_B_clash_26 : decode m_B_clash.2.1 26 = .ok (.goto 7, 3) := by decide +kernel
theorem q_B_clash_29 : decode m_B_clash.2.1 29 = .ok (.aload_n 0, 1) := by decide +kernel
theorem q_B_clash_30 : decode m_B_clash.2.1 30 = .ok (.invokevirtual 162, 3) := by decide +kernel
theorem q_B_clash_33 : decode m_B_clash.2.1 33 = .ok (.putfield 165, 3) := by decide +kernel
theorem q_B_clash_36 : decode m_B_clash.2.1 36 = .ok (.aload_n 0, 1) := by decide +kernel
theorem q_B_clash_37 : decode m_B_clash.2.1 37 = .ok (.iconst 1, 1) := by decide +kernel
theorem q_B_clash_38 : decode m_B_clash.2.1 38 = .ok (.putfield 156, 3) := by decide +kernel
theorem q_B_clash_41 : decode m_B_clash.2.1 41 = .ok (.aload_n 0, 1) := by decide +kernel
theorem q_B_clash_42 : decode m_B_clash.2.1 42 = .ok (.getfield 165, 3) := by decide +kernel
theorem q_B_clash_45 : decode m_B_clash.2.1 45 = .ok (.iload_n 1, 1) := by decide +kernel
theorem q_B_clash_46 : decode m_B_clash.2.1 46 = .ok (.invokestatic 168, 3) := by decide +kernel
theorem q_B_clash_49 : decode m_B_clash.2.1 49 = .ok (.ireturn, 1) := by decide +kernel
theorem q_B_proved_0 : decode m_B_proved.2.1 0 = .ok (.aload_n 0, 1) := by decide +kernel
theorem q_B_proved_1 : decode m_B_proved.2.1 1 = .ok (.getfield 137, 3) := by decide +kernel
theorem q_B_proved_4 : decode m_B_proved.2.1 4 = .ok (.ireturn, 1) := by decide +kernel
theorem q_B_price_0 : decode m_B_price.2.1 0 = .ok (.aload_n 0, 1) := by decide +kernel
theorem q_B_price_1 : decode m_B_price.2.1 1 = .ok (.getfield 23, 3) := by decide +kernel
theorem q_B_price_4 : decode m_B_price.2.1 4 = .ok (.iload_n 1, 1) := by decide +kernel
theorem q_B_price_5 : decode m_B_price.2.1 5 = .ok (.invokevirtual 68, 3) := by decide +kernel
theorem q_B_price_8 : decode m_B_price.2.1 8 = .ok (.ifCond .ne 7, 3) := by decide +kernel
theorem q_B_price_11 : decode m_B_price.2.1 11 = .ok (.ldc2_w 119, 3) := by decide +kernel
theorem q_B_price_14 : decode m_B_price.2.1 14 = .ok (.lreturn, 1) := by decide +kernel
theorem q_B_price_15 : decode m_B_price.2.1 15 = .ok (.iload_n 2, 1) := by decide +kernel
theorem q_B_price_16 : decode m_B_price.2.1 16 = .ok (.ifCond .ne 9, 3) := by decide +kernel
theorem q_B_price_19 : decode m_B_price.2.1 19 = .ok (.aload_n 0, 1) := by decide +kernel
theorem q_B_price_20 : decode m_B_price.2.1 20 = .ok (.iload_n 1, 1) := by decide +kernel
theorem q_B_price_21 : decode m_B_price.2.1 21 = .ok (.invokevirtual 171, 3) := by decide +kernel
theorem q_B_price_24 : decode m_B_price.2.1 24 = .ok (.lreturn, 1) := by decide +kernel
theorem q_B_price_25 : decode m_B_price.2.1 25 = .ok (.iload_n 2, 1) := by decide +kernel
theorem q_B_price_26 : decode m_B_price.2.1 26 = .ok (.iconst 1, 1) := by decide +kernel
theorem q_B_price_27 : decode m_B_price.2.1 27 = .ok (.if_icmp .ne 25, 3) := by decide +kernel
theorem q_B_price_30 : decode m_B_price.2.1 30 = .ok (.aload_n 0, 1) := by decide +kernel
theorem q_B_price_31 : decode m_B_price.2.1 31 = .ok (.getfield 39, 3) := by decide +kernel
theorem q_B_price_34 : decode m_B_price.2.1 34 = .ok (.ldc2_w 174, 3) := by decide +kernel
theorem q_B_price_37 : decode m_B_price.2.1 37 = .ok (.invokevirtual 152, 3) := by decide +kernel
theorem q_B_price_40 : decode m_B_price.2.1 40 = .ok (.aload_n 0, 1) := by decide +kernel
theorem q_B_price_41 : decode m_B_price.2.1 41 = .ok (.getfield 39, 3) := by decide +kernel
theorem q_B_price_44 : decode m_B_price.2.1 44 = .ok (.lconst 0, 1) := by decide +kernel
theorem q_B_price_45 : decode m_B_price.2.1 45 = .ok (.invokevirtual 152, 3) := by decide +kernel
theorem q_B_price_48 : decode m_B_price.2.1 48 = .ok (.lsub, 1) := by decide +kernel
theorem q_B_price_49 : decode m_B_price.2.1 49 = .ok (.goto 6, 3) := by decide +kernel
theorem q_B_price_52 : decode m_B_price.2.1 52 = .ok (.ldc2_w 119, 3) := by decide +kernel
theorem q_B_price_55 : decode m_B_price.2.1 55 = .ok (.lreturn, 1) := by decide +kernel
theorem q_B_old_0 : decode m_B_old.2.1 0 = .ok (.aload_n 0, 1) := by decide +kernel
theorem q_B_old_1 : decode m_B_old.2.1 1 = .ok (.getfield 23, 3) := by decide +kernel
theorem q_B_old_4 : decode m_B_old.2.1 4 = .ok (.iload_n 1, 1) := by decide +kernel
theorem q_B_old_5 : decode m_B_old.2.1 5 = .ok (.invokevirtual 84, 3) := by decide +kernel
theorem q_B_old_8 : decode m_B_old.2.1 8 = .ok (.ifCond .ne 5, 3) := by decide +kernel
theorem q_B_old_11 : decode m_B_old.2.1 11 = .ok (.iconst 0, 1) := by decide +kernel
theorem q_B_old_12 : decode m_B_old.2.1 12 = .ok (.ireturn, 1) := by decide +kernel
theorem q_B_old_13 : decode m_B_old.2.1 13 = .ok (.aload_n 0, 1) := by decide +kernel
theorem q_B_old_14 : decode m_B_old.2.1 14 = .ok (.iload_n 2, 1) := by decide +kernel
theorem q_B_old_15 : decode m_B_old.2.1 15 = .ok (.ifCond .eq 14, 3) := by decide +kernel
theorem q_B_old_18 : decode m_B_old.2.1 18 = .ok (.aload_n 0, 1) := by decide +kernel
theorem q_B_old_19 : decode m_B_old.2.1 19 = .ok (.getfield 176, 3) := by decide +kernel
theorem q_B_old_22 : decode m_B_old.2.1 22 = .ok (.iconst 1, 1) := by decide +kernel
theorem q_B_old_23 : decode m_B_old.2.1 23 = .ok (.iload_n 1, 1) := by decide +kernel
theorem q_B_old_24 : decode m_B_old.2.1 24 = .ok (.ishl, 1) := by decide +kernel
theorem q_B_old_25 : decode m_B_old.2.1 25 = .ok (.ior, 1) := by decide +kernel
theorem q_B_old_26 : decode m_B_old.2.1 26 = .ok (.goto 13, 3) := by decide +kernel
theorem q_B_old_29 : decode m_B_old.2.1 29 = .ok (.aload_n 0, 1) := by decide +kernel
theorem q_B_old_30 : decode m_B_old.2.1 30 = .ok (.getfield 176, 3) := by decide +kernel
theorem q_B_old_33 : decode m_B_old.2.1 33 = .ok (.iconst 1, 1) := by decide +kernel
theorem q_B_old_34 : decode m_B_old.2.1 34 = .ok (.iload_n 1, 1) := by decide +kernel
theorem q_B_old_35 : decode m_B_old.2.1 35 = .ok (.ishl, 1) := by decide +kernel
theorem q_B_old_36 : decode m_B_old.2.1 36 = .ok (.iconst (-1), 1) := by decide +kernel
theorem q_B_old_37 : decode m_B_old.2.1 37 = .ok (.ixor, 1) := by decide +kernel
theorem q_B_old_38 : decode m_B_old.2.1 38 = .ok (.iand, 1) := by decide +kernel
theorem q_B_old_39 : decode m_B_old.2.1 39 = .ok (.putfield 176, 3) := by decide +kernel
theorem q_B_old_42 : decode m_B_old.2.1 42 = .ok (.iconst 1, 1) := by decide +kernel
theorem q_B_old_43 : decode m_B_old.2.1 43 = .ok (.ireturn, 1) := by decide +kernel
theorem q_B_changes_0 : decode m_B_changes.2.1 0 = .ok (.lload_n 1, 1) := by decide +kernel
theorem q_B_changes_1 : decode m_B_changes.2.1 1 = .ok (.invokestatic 125, 3) := by decide +kernel
theorem q_B_changes_4 : decode m_B_changes.2.1 4 = .ok (.ifCond .ne 5, 3) := by decide +kernel
theorem q_B_changes_7 : decode m_B_changes.2.1 7 = .ok (.iconst (-1), 1) := by decide +kernel
theorem q_B_changes_8 : decode m_B_changes.2.1 8 = .ok (.ireturn, 1) := by decide +kernel
theorem q_B_changes_9 : decode m_B_changes.2.1 9 = .ok (.aload_n 0, 1) := by decide +kernel
theorem q_B_changes_10 : decode m_B_changes.2.1 10 = .ok (.aload_n 0, 1) := by decide +kernel
theorem q_B_changes_11 : decode m_B_changes.2.1 11 = .ok (.getfield 32, 3) := by decide +kernel
theorem q_B_changes_14 : decode m_B_changes.2.1 14 = .ok (.lload_n 1, 1) := by decide +kernel
theorem q_B_changes_15 : decode m_B_changes.2.1 15 = .ok (.aload_n 0, 1) := by decide +kernel
theorem q_B_changes_16 : decode m_B_changes.2.1 16 = .ok (.getfield 176, 3) := by decide +kernel
theorem q_B_changes_19 : decode m_B_changes.2.1 19 = .ok (.invokevirtual 179, 3) := by decide +kernel
theorem q_B_changes_22 : decode m_B_changes.2.1 22 = .ok (.putfield 50, 3) := by decide +kernel
theorem q_B_changes_25 : decode m_B_changes.2.1 25 = .ok (.aload_n 0, 1) := by decide +kernel
theorem q_B_changes_26 : decode m_B_changes.2.1 26 = .ok (.getfield 50, 3) := by decide +kernel
theorem q_B_changes_29 : decode m_B_changes.2.1 29 = .ok (.iconst (-1), 1) := by decide +kernel
theorem q_B_changes_30 : decode m_B_changes.2.1 30 = .ok (.if_icmp .ne 7, 3) := by decide +kernel
theorem q_B_changes_33 : decode m_B_changes.2.1 33 = .ok (.iconst (-1), 1) := by decide +kernel
theorem q_B_changes_34 : decode m_B_changes.2.1 34 = .ok (.goto 15, 3) := by decide +kernel
theorem q_B_changes_37 : decode m_B_changes.2.1 37 = .ok (.aload_n 0, 1) := by decide +kernel
theorem q_B_changes_38 : decode m_B_changes.2.1 38 = .ok (.getfield 50, 3) := by decide +kernel
theorem q_B_changes_41 : decode m_B_changes.2.1 41 = .ok (.aload_n 0, 1) := by decide +kernel
theorem q_B_changes_42 : decode m_B_changes.2.1 42 = .ok (.getfield 176, 3) := by decide +kernel
theorem q_B_changes_45 : decode m_B_changes.2.1 45 = .ok (.ixor, 1) := by decide +kernel
theorem q_B_changes_46 : decode m_B_changes.2.1 46 = .ok (.invokestatic 183, 3) := by decide +kernel
theorem q_B_changes_49 : decode m_B_changes.2.1 49 = .ok (.ireturn, 1) := by decide +kernel
theorem q_B_changed_0 : decode m_B_changed.2.1 0 = .ok (.aload_n 0, 1) := by decide +kernel
theorem q_B_changed_1 : decode m_B_changed.2.1 1 = .ok (.getfield 50, 3) := by decide +kernel
theorem q_B_changed_4 : decode m_B_changed.2.1 4 = .ok (.iconst (-1), 1) := by decide +kernel
theorem q_B_changed_5 : decode m_B_changed.2.1 5 = .ok (.if_icmp .ne 7, 3) := by decide +kernel
theorem q_B_changed_8 : decode m_B_changed.2.1 8 = .ok (.iconst (-1), 1) := by decide +kernel
theorem q_B_changed_9 : decode m_B_changed.2.1 9 = .ok (.goto 16, 3) := by decide +kernel
theorem q_B_changed_12 : decode m_B_changed.2.1 12 = .ok (.aload_n 0, 1) := by decide +kernel
theorem q_B_changed_13 : decode m_B_changed.2.1 13 = .ok (.getfield 50, 3) := by decide +kernel
theorem q_B_changed_16 : decode m_B_changed.2.1 16 = .ok (.aload_n 0, 1) := by decide +kernel
theorem q_B_changed_17 : decode m_B_changed.2.1 17 = .ok (.getfield 176, 3) := by decide +kernel
theorem q_B_changed_20 : decode m_B_changed.2.1 20 = .ok (.ixor, 1) := by decide +kernel
theorem q_B_changed_21 : decode m_B_changed.2.1 21 = .ok (.iload_n 1, 1) := by decide +kernel
theorem q_B_changed_22 : decode m_B_changed.2.1 22 = .ok (.invokestatic 168, 3) := by decide +kernel
theorem q_B_changed_25 : decode m_B_changed.2.1 25 = .ok (.ireturn, 1) := by decide +kernel
theorem q_B_backlog_0 : decode m_B_backlog.2.1 0 = .ok (.aload_n 0, 1) := by decide +kernel
theorem q_B_backlog_1 : decode m_B_backlog.2.1 1 = .ok (.getfield 23, 3) := by decide +kernel
theorem q_B_backlog_4 : decode m_B_backlog.2.1 4 = .ok (.iload_n 1, 1) := by decide +kernel
theorem q_B_backlog_5 : decode m_B_backlog.2.1 5 = .ok (.invokevirtual 68, 3) := by decide +kernel
theorem q_B_backlog_8 : decode m_B_backlog.2.1 8 = .ok (.ifCond .ne 7, 3) := by decide +kernel
theorem q_B_backlog_11 : decode m_B_backlog.2.1 11 = .ok (.ldc2_w 119, 3) := by decide +kernel
theorem q_B_backlog_14 : decode m_B_backlog.2.1 14 = .ok (.lreturn, 1) := by decide +kernel
theorem q_B_backlog_15 : decode m_B_backlog.2.1 15 = .ok (.lconst 0, 1) := by decide +kernel
theorem q_B_backlog_16 : decode m_B_backlog.2.1 16 = .ok (.lstore_n 2, 1) := by decide +kernel
theorem q_B_backlog_17 : decode m_B_backlog.2.1 17 = .ok (.iconst 0, 1) := by decide +kernel
theorem q_B_backlog_18 : decode m_B_backlog.2.1 18 = .ok (.istore 4, 2) := by decide +kernel
theorem q_B_backlog_20 : decode m_B_backlog.2.1 20 = .ok (.iload 4, 2) := by decide +kernel
theorem q_B_backlog_22 : decode m_B_backlog.2.1 22 = .ok (.aload_n 0, 1) := by decide +kernel
theorem q_B_backlog_23 : decode m_B_backlog.2.1 23 = .ok (.getfield 23, 3) := by decide +kernel
theorem q_B_backlog_26 : decode m_B_backlog.2.1 26 = .ok (.getfield 54, 3) := by decide +kernel
theorem q_B_backlog_29 : decode m_B_backlog.2.1 29 = .ok (.if_icmp .ge 39, 3) := by decide +kernel
theorem q_B_backlog_32 : decode m_B_backlog.2.1 32 = .ok (.aload_n 0, 1) := by decide +kernel
theorem q_B_backlog_33 : decode m_B_backlog.2.1 33 = .ok (.getfield 23, 3) := by decide +kernel
theorem q_B_backlog_36 : decode m_B_backlog.2.1 36 = .ok (.aload_n 0, 1) := by decide +kernel
theorem q_B_backlog_37 : decode m_B_backlog.2.1 37 = .ok (.invokevirtual 141, 3) := by decide +kernel
theorem q_B_backlog_40 : decode m_B_backlog.2.1 40 = .ok (.iload 4, 2) := by decide +kernel
theorem q_B_backlog_42 : decode m_B_backlog.2.1 42 = .ok (.iload_n 1, 1) := by decide +kernel
theorem q_B_backlog_43 : decode m_B_backlog.2.1 43 = .ok (.invokevirtual 188, 3) := by decide +kernel
theorem q_B_backlog_46 : decode m_B_backlog.2.1 46 = .ok (.ifCond .ne 16, 3) := by decide +kernel
theorem q_B_backlog_49 : decode m_B_backlog.2.1 49 = .ok (.lload_n 2, 1) := by decide +kernel
theorem q_B_backlog_50 : decode m_B_backlog.2.1 50 = .ok (.aload_n 0, 1) := by decide +kernel
theorem q_B_backlog_51 : decode m_B_backlog.2.1 51 = .ok (.getfield 23, 3) := by decide +kernel
theorem q_B_backlog_54 : decode m_B_backlog.2.1 54 = .ok (.iload 4, 2) := by decide +kernel
theorem q_B_backlog_56 : decode m_B_backlog.2.1 56 = .ok (.iload_n 1, 1) := by decide +kernel
theorem q_B_backlog_57 : decode m_B_backlog.2.1 57 = .ok (.invokevirtual 192, 3) := by decide +kernel
theorem q_B_backlog_60 : decode m_B_backlog.2.1 60 = .ok (.ladd, 1) := by decide +kernel
theorem q_B_backlog_61 : decode m_B_backlog.2.1 61 = .ok (.lstore_n 2, 1) := by decide +kernel
theorem q_B_backlog_62 : decode m_B_backlog.2.1 62 = .ok (.iinc 4 1, 3) := by decide +kernel
theorem q_B_backlog_65 : decode m_B_backlog.2.1 65 = .ok (.goto (-45), 3) := by decide +kernel
theorem q_B_backlog_68 : decode m_B_backlog.2.1 68 = .ok (.lload_n 2, 1) := by decide +kernel
theorem q_B_backlog_69 : decode m_B_backlog.2.1 69 = .ok (.lreturn, 1) := by decide +kernel
theorem q_B_rank_0 : decode m_B_rank.2.1 0 = .ok (.iconst 0, 1) := by decide +kernel
theorem q_B_rank_1 : decode m_B_rank.2.1 1 = .ok (.istore_n 2, 1) := by decide +kernel
theorem q_B_rank_2 : decode m_B_rank.2.1 2 = .ok (.iload_n 2, 1) := by decide +kernel
theorem q_B_rank_3 : decode m_B_rank.2.1 3 = .ok (.aload_n 0, 1) := by decide +kernel
theorem q_B_rank_4 : decode m_B_rank.2.1 4 = .ok (.getfield 23, 3) := by decide +kernel
theorem q_B_rank_7 : decode m_B_rank.2.1 7 = .ok (.getfield 54, 3) := by decide +kernel
theorem q_B_rank_10 : decode m_B_rank.2.1 10 = .ok (.if_icmp .ge 20, 3) := by decide +kernel
theorem q_B_rank_13 : decode m_B_rank.2.1 13 = .ok (.aload_n 0, 1) := by decide +kernel
theorem q_B_rank_14 : decode m_B_rank.2.1 14 = .ok (.iload_n 2, 1) := by decide +kernel
theorem q_B_rank_15 : decode m_B_rank.2.1 15 = .ok (.invokevirtual 196, 3) := by decide +kernel
theorem q_B_rank_18 : decode m_B_rank.2.1 18 = .ok (.iload_n 1, 1) := by decide +kernel
theorem q_B_rank_19 : decode m_B_rank.2.1 19 = .ok (.if_icmp .ne 5, 3) := by decide +kernel
theorem q_B_rank_22 : decode m_B_rank.2.1 22 = .ok (.iload_n 2, 1) := by decide +kernel
theorem q_B_rank_23 : decode m_B_rank.2.1 23 = .ok (.ireturn, 1) := by decide +kernel
theorem q_B_rank_24 : decode m_B_rank.2.1 24 = .ok (.iinc 2 1, 3) := by decide +kernel
theorem q_B_rank_27 : decode m_B_rank.2.1 27 = .ok (.goto (-25), 3) := by decide +kernel
theorem q_B_rank_30 : decode m_B_rank.2.1 30 = .ok (.iconst (-1), 1) := by decide +kernel
theorem q_B_rank_31 : decode m_B_rank.2.1 31 = .ok (.ireturn, 1) := by decide +kernel
theorem q_B_share_0 : decode m_B_share.2.1 0 = .ok (.iload_n 1, 1) := by decide +kernel
theorem q_B_share_1 : decode m_B_share.2.1 1 = .ok (.invokestatic 110, 3) := by decide +kernel
theorem q_B_share_4 : decode m_B_share.2.1 4 = .ok (.ifCond .eq 20, 3) := by decide +kernel
theorem q_B_share_7 : decode m_B_share.2.1 7 = .ok (.iload_n 2, 1) := by decide +kernel
theorem q_B_share_8 : decode m_B_share.2.1 8 = .ok (.ifCond .lt 16, 3) := by decide +kernel
theorem q_B_share_11 : decode m_B_share.2.1 11 = .ok (.iload_n 2, 1) := by decide +kernel
theorem q_B_share_12 : decode m_B_share.2.1 12 = .ok (.iconst 1, 1) := by decide +kernel
theorem q_B_share_13 : decode m_B_share.2.1 13 = .ok (.if_icmp .gt 11, 3) := by decide +kernel
theorem q_B_share_16 : decode m_B_share.2.1 16 = .ok (.aload_n 0, 1) := by decide +kernel
theorem q_B_share_17 : decode m_B_share.2.1 17 = .ok (.getfield 50, 3) := by decide +kernel
theorem q_B_share_20 : decode m_B_share.2.1 20 = .ok (.iconst (-1), 1) := by decide +kernel
theorem q_B_share_21 : decode m_B_share.2.1 21 = .ok (.if_icmp .ne 7, 3) := by decide +kernel
theorem q_B_share_24 : decode m_B_share.2.1 24 = .ok (.ldc2_w 119, 3) := by decide +kernel
theorem q_B_share_27 : decode m_B_share.2.1 27 = .ok (.lreturn, 1) := by decide +kernel
theorem q_B_share_28 : decode m_B_share.2.1 28 = .ok (.aload_n 0, 1) := by decide +kernel
theorem q_B_share_29 : decode m_B_share.2.1 29 = .ok (.getfield 23, 3) := by decide +kernel
theorem q_B_share_32 : decode m_B_share.2.1 32 = .ok (.aload_n 0, 1) := by decide +kernel
theorem q_B_share_33 : decode m_B_share.2.1 33 = .ok (.getfield 50, 3) := by decide +kernel
theorem q_B_share_36 : decode m_B_share.2.1 36 = .ok (.invokevirtual 144, 3) := by decide +kernel
theorem q_B_share_39 : decode m_B_share.2.1 39 = .ok (.lstore_n 3, 1) := by decide +kernel
theorem q_B_share_40 : decode m_B_share.2.1 40 = .ok (.aload_n 0, 1) := by decide +kernel
theorem q_B_share_41 : decode m_B_share.2.1 41 = .ok (.getfield 23, 3) := by decide +kernel
theorem q_B_share_44 : decode m_B_share.2.1 44 = .ok (.aload_n 0, 1) := by decide +kernel
theorem q_B_share_45 : decode m_B_share.2.1 45 = .ok (.getfield 50, 3) := by decide +kernel
theorem q_B_share_48 : decode m_B_share.2.1 48 = .ok (.iload_n 1, 1) := by decide +kernel
theorem q_B_share_49 : decode m_B_share.2.1 49 = .ok (.invokevirtual 199, 3) := by decide +kernel
theorem q_B_share_52 : decode m_B_share.2.1 52 = .ok (.lstore 5, 2) := by decide +kernel
theorem q_B_share_54 : decode m_B_share.2.1 54 = .ok (.lload_n 3, 1) := by decide +kernel
theorem q_B_share_55 : decode m_B_share.2.1 55 = .ok (.lload 5, 2) := by decide +kernel
theorem q_B_share_57 : decode m_B_share.2.1 57 = .ok (.invokestatic 202, 3) := by decide +kernel
theorem q_B_share_60 : decode m_B_share.2.1 60 = .ok (.lstore 7, 2) := by decide +kernel
theorem q_B_share_62 : decode m_B_share.2.1 62 = .ok (.lload 7, 2) := by decide +kernel
theorem q_B_share_64 : decode m_B_share.2.1 64 = .ok (.lconst 0, 1) := by decide +kernel
theorem q_B_share_65 : decode m_B_share.2.1 65 = .ok (.lcmp, 1) := by decide +kernel
theorem q_B_share_66 : decode m_B_share.2.1 66 = .ok (.ifCond .ne 6, 3) := by decide +kernel
theorem q_B_share_69 : decode m_B_share.2.1 69 = .ok (.iload_n 2, 1) := by decide +kernel
theorem q_B_share_70 : decode m_B_share.2.1 70 = .ok (.i2l, 1) := by decide +kernel
theorem q_B_share_71 : decode m_B_share.2.1 71 = .ok (.lreturn, 1) := by decide +kernel
theorem q_B_share_72 : decode m_B_share.2.1 72 = .ok (.iload_n 2, 1) := by decide +kernel
theorem q_B_share_73 : decode m_B_share.2.1 73 = .ok (.ifCond .ne 11, 3) := by decide +kernel
theorem q_B_share_76 : decode m_B_share.2.1 76 = .ok (.lload 5, 2) := by decide +kernel
theorem q_B_share_78 : decode m_B_share.2.1 78 = .ok (.lload 7, 2) := by decide +kernel
theorem q_B_share_80 : decode m_B_share.2.1 80 = .ok (.ldiv, 1) := by decide +kernel
theorem q_B_share_81 : decode m_B_share.2.1 81 = .ok (.goto 7, 3) := by decide +kernel
theorem q_B_share_84 : decode m_B_share.2.1 84 = .ok (.lload_n 3, 1) := by decide +kernel
theorem q_B_share_85 : decode m_B_share.2.1 85 = .ok (.lload 7, 2) := by decide +kernel
theorem q_B_share_87 : decode m_B_share.2.1 87 = .ok (.ldiv, 1) := by decide +kernel
theorem q_B_share_88 : decode m_B_share.2.1 88 = .ok (.lreturn, 1) := by decide +kernel
theorem q_B_policy_0 : decode m_B_policy.2.1 0 = .ok (.aload_n 0, 1) := by decide +kernel
theorem q_B_policy_1 : decode m_B_policy.2.1 1 = .ok (.aload_n 0, 1) := by decide +kernel
theorem q_B_policy_2 : decode m_B_policy.2.1 2 = .ok (.getfield 46, 3) := by decide +kernel
theorem q_B_policy_5 : decode m_B_policy.2.1 5 = .ok (.iload_n 1, 1) := by decide +kernel
theorem q_B_policy_6 : decode m_B_policy.2.1 6 = .ok (.invokevirtual 206, 3) := by decide +kernel
theorem q_B_policy_9 : decode m_B_policy.2.1 9 = .ok (.putfield 50, 3) := by decide +kernel
theorem q_B_policy_12 : decode m_B_policy.2.1 12 = .ok (.aload_n 0, 1) := by decide +kernel
theorem q_B_policy_13 : decode m_B_policy.2.1 13 = .ok (.getfield 50, 3) := by decide +kernel
theorem q_B_policy_16 : decode m_B_policy.2.1 16 = .ok (.iconst (-1), 1) := by decide +kernel
theorem q_B_policy_17 : decode m_B_policy.2.1 17 = .ok (.if_icmp .ne 7, 3) := by decide +kernel
theorem q_B_policy_20 : decode m_B_policy.2.1 20 = .ok (.iconst (-1), 1) := by decide +kernel
theorem q_B_policy_21 : decode m_B_policy.2.1 21 = .ok (.goto 15, 3) := by decide +kernel
theorem q_B_policy_24 : decode m_B_policy.2.1 24 = .ok (.aload_n 0, 1) := by decide +kernel
theorem q_B_policy_25 : decode m_B_policy.2.1 25 = .ok (.getfield 23, 3) := by decide +kernel
theorem q_B_policy_28 : decode m_B_policy.2.1 28 = .ok (.aload_n 0, 1) := by decide +kernel
theorem q_B_policy_29 : decode m_B_policy.2.1 29 = .ok (.getfield 50, 3) := by decide +kernel
theorem q_B_policy_32 : decode m_B_policy.2.1 32 = .ok (.invokevirtual 144, 3) := by decide +kernel
theorem q_B_policy_35 : decode m_B_policy.2.1 35 = .ok (.l2i, 1) := by decide +kernel
theorem q_B_policy_36 : decode m_B_policy.2.1 36 = .ok (.ireturn, 1) := by decide +kernel
theorem q_B_compare_0 : decode m_B_compare.2.1 0 = .ok (.aload_n 0, 1) := by decide +kernel
theorem q_B_compare_1 : decode m_B_compare.2.1 1 = .ok (.getfield 46, 3) := by decide +kernel
theorem q_B_compare_4 : decode m_B_compare.2.1 4 = .ok (.iload_n 1, 1) := by decide +kernel
theorem q_B_compare_5 : decode m_B_compare.2.1 5 = .ok (.invokevirtual 206, 3) := by decide +kernel
theorem q_B_compare_8 : decode m_B_compare.2.1 8 = .ok (.istore_n 3, 1) := by decide +kernel
theorem q_B_compare_9 : decode m_B_compare.2.1 9 = .ok (.aload_n 0, 1) := by decide +kernel
theorem q_B_compare_10 : decode m_B_compare.2.1 10 = .ok (.getfield 46, 3) := by decide +kernel
theorem q_B_compare_13 : decode m_B_compare.2.1 13 = .ok (.iload_n 2, 1) := by decide +kernel
theorem q_B_compare_14 : decode m_B_compare.2.1 14 = .ok (.invokevirtual 206, 3) := by decide +kernel
theorem q_B_compare_17 : decode m_B_compare.2.1 17 = .ok (.istore 4, 2) := by decide +kernel
theorem q_B_compare_19 : decode m_B_compare.2.1 19 = .ok (.iload_n 3, 1) := by decide +kernel
theorem q_B_compare_20 : decode m_B_compare.2.1 20 = .ok (.iconst (-1), 1) := by decide +kernel
theorem q_B_compare_21 : decode m_B_compare.2.1 21 = .ok (.if_icmp .eq 9, 3) := by decide +kernel
theorem q_B_compare_24 : decode m_B_compare.2.1 24 = .ok (.iload 4, 2) := by decide +kernel
theorem q_B_compare_26 : decode m_B_compare.2.1 26 = .ok (.iconst (-1), 1) := by decide +kernel
theorem q_B_compare_27 : decode m_B_compare.2.1 27 = .ok (.if_icmp .ne 7, 3) := by decide +kernel
theorem q_B_compare_30 : decode m_B_compare.2.1 30 = .ok (.ldc2_w 119, 3) := by decide +kernel
theorem q_B_compare_33 : decode m_B_compare.2.1 33 = .ok (.lreturn, 1) := by decide +kernel
theorem q_B_compare_34 : decode m_B_compare.2.1 34 = .ok (.aload_n 0, 1) := by decide +kernel
theorem q_B_compare_35 : decode m_B_compare.2.1 35 = .ok (.getfield 23, 3) := by decide +kernel
theorem q_B_compare_38 : decode m_B_compare.2.1 38 = .ok (.iload_n 3, 1) := by decide +kernel
theorem q_B_compare_39 : decode m_B_compare.2.1 39 = .ok (.invokevirtual 144, 3) := by decide +kernel
theorem q_B_compare_42 : decode m_B_compare.2.1 42 = .ok (.aload_n 0, 1) := by decide +kernel
theorem q_B_compare_43 : decode m_B_compare.2.1 43 = .ok (.getfield 23, 3) := by decide +kernel
theorem q_B_compare_46 : decode m_B_compare.2.1 46 = .ok (.iload 4, 2) := by decide +kernel
theorem q_B_compare_48 : decode m_B_compare.2.1 48 = .ok (.invokevirtual 144, 3) := by decide +kernel
theorem q_B_compare_51 : decode m_B_compare.2.1 51 = .ok (.lsub, 1) := by decide +kernel
theorem q_B_compare_52 : decode m_B_compare.2.1 52 = .ok (.lreturn, 1) := by decide +kernel
theorem q_B_list_0 : decode m_B_list.2.1 0 = .ok (.iload_n 1, 1) := by decide +kernel
theorem q_B_list_1 : decode m_B_list.2.1 1 = .ok (.invokestatic 110, 3) := by decide +kernel
theorem q_B_list_4 : decode m_B_list.2.1 4 = .ok (.ifCond .eq 7, 3) := by decide +kernel
theorem q_B_list_7 : decode m_B_list.2.1 7 = .ok (.iload_n 2, 1) := by decide +kernel
theorem q_B_list_8 : decode m_B_list.2.1 8 = .ok (.ifCond .ge 5, 3) := by decide +kernel
theorem q_B_list_11 : decode m_B_list.2.1 11 = .ok (.iconst (-1), 1) := by decide +kernel
theorem q_B_list_12 : decode m_B_list.2.1 12 = .ok (.ireturn, 1) := by decide +kernel
theorem q_B_list_13 : decode m_B_list.2.1 13 = .ok (.iload_n 2, 1) := by decide +kernel
theorem q_B_list_14 : decode m_B_list.2.1 14 = .ok (.istore_n 3, 1) := by decide +kernel
theorem q_B_list_15 : decode m_B_list.2.1 15 = .ok (.iconst 0, 1) := by decide +kernel
theorem q_B_list_16 : decode m_B_list.2.1 16 = .ok (.istore 4, 2) := by decide +kernel
theorem q_B_list_18 : decode m_B_list.2.1 18 = .ok (.iload 4, 2) := by decide +kernel
theorem q_B_list_20 : decode m_B_list.2.1 20 = .ok (.aload_n 0, 1) := by decide +kernel
theorem q_B_list_21 : decode m_B_list.2.1 21 = .ok (.getfield 23, 3) := by decide +kernel
theorem q_B_list_24 : decode m_B_list.2.1 24 = .ok (.getfield 209, 3) := by decide +kernel
theorem q_B_list_27 : decode m_B_list.2.1 27 = .ok (.if_icmp .ge 50, 3) := by decide +kernel
theorem q_B_list_30 : decode m_B_list.2.1 30 = .ok (.aload_n 0, 1) := by decide +kernel
theorem q_B_list_31 : decode m_B_list.2.1 31 = .ok (.getfield 23, 3) := by decide +kernel
theorem q_B_list_34 : decode m_B_list.2.1 34 = .ok (.aload_n 0, 1) := by decide +kernel
theorem q_B_list_35 : decode m_B_list.2.1 35 = .ok (.invokevirtual 141, 3) := by decide +kernel
theorem q_B_list_38 : decode m_B_list.2.1 38 = .ok (.iload_n 1, 1) := by decide +kernel
theorem q_B_list_39 : decode m_B_list.2.1 39 = .ok (.iload 4, 2) := by decide +kernel
theorem q_B_list_41 : decode m_B_list.2.1 41 = .ok (.invokevirtual 212, 3) := by decide +kernel
theorem q_B_list_44 : decode m_B_list.2.1 44 = .ok (.istore 5, 2) := by decide +kernel
theorem q_B_list_46 : decode m_B_list.2.1 46 = .ok (.iload 5, 2) := by decide +kernel
theorem q_B_list_48 : decode m_B_list.2.1 48 = .ok (.invokestatic 183, 3) := by decide +kernel
theorem q_B_list_51 : decode m_B_list.2.1 51 = .ok (.istore 6, 2) := by decide +kernel
theorem q_B_list_53 : decode m_B_list.2.1 53 = .ok (.iload_n 3, 1) := by decide +kernel
theorem q_B_list_54 : decode m_B_list.2.1 54 = .ok (.iload 6, 2) := by decide +kernel
theorem q_B_list_56 : decode m_B_list.2.1 56 = .ok (.if_icmp .ge 10, 3) := by decide +kernel
theorem q_B_list_59 : decode m_B_list.2.1 59 = .ok (.iload 5, 2) := by decide +kernel
theorem q_B_list_61 : decode m_B_list.2.1 61 = .ok (.iload_n 3, 1) := by decide +kernel
theorem q_B_list_62 : decode m_B_list.2.1 62 = .ok (.invokestatic 168, 3) := by decide +kernel
theorem q_B_list_65 : decode m_B_list.2.1 65 = .ok (.ireturn, 1) := by decide +kernel
theorem q_B_list_66 : decode m_B_list.2.1 66 = .ok (.iload_n 3, 1) := by decide +kernel
theorem q_B_list_67 : decode m_B_list.2.1 67 = .ok (.iload 6, 2) := by decide +kernel
theorem q_B_list_69 : decode m_B_list.2.1 69 = .ok (.isub, 1) := by decide +kernel
theorem q_B_list_70 : decode m_B_list.2.1 70 = .ok (.istore_n 3, 1) := by decide +kernel
theorem q_B_list_71 : decode m_B_list.2.1 71 = .ok (.iinc 4 1, 3) := by decide +kernel
theorem q_B_list_74 : decode m_B_list.2.1 74 = .ok (.goto (-56), 3) := by decide +kernel
theorem q_B_list_77 : decode m_B_list.2.1 77 = .ok (.iconst (-1), 1) := by decide +kernel
theorem q_B_list_78 : decode m_B_list.2.1 78 = .ok (.ireturn, 1) := by decide +kernel
theorem q_B_earlier_0 : decode m_B_earlier.2.1 0 = .ok (.aload_n 0, 1) := by decide +kernel
theorem q_B_earlier_1 : decode m_B_earlier.2.1 1 = .ok (.getfield 23, 3) := by decide +kernel
theorem q_B_earlier_4 : decode m_B_earlier.2.1 4 = .ok (.iload_n 1, 1) := by decide +kernel
theorem q_B_earlier_5 : decode m_B_earlier.2.1 5 = .ok (.invokevirtual 68, 3) := by decide +kernel
theorem q_B_earlier_8 : decode m_B_earlier.2.1 8 = .ok (.ifCond .eq 11, 3) := by decide +kernel
theorem q_B_earlier_11 : decode m_B_earlier.2.1 11 = .ok (.aload_n 0, 1) := by decide +kernel
theorem q_B_earlier_12 : decode m_B_earlier.2.1 12 = .ok (.getfield 50, 3) := by decide +kernel
theorem q_B_earlier_15 : decode m_B_earlier.2.1 15 = .ok (.iconst (-1), 1) := by decide +kernel
theorem q_B_earlier_16 : decode m_B_earlier.2.1 16 = .ok (.if_icmp .ne 5, 3) := by decide +kernel
theorem q_B_earlier_19 : decode m_B_earlier.2.1 19 = .ok (.iconst (-1), 1) := by decide +kernel
theorem q_B_earlier_20 : decode m_B_earlier.2.1 20 = .ok (.ireturn, 1) := by decide +kernel
theorem q_B_earlier_21 : decode m_B_earlier.2.1 21 = .ok (.iconst 0, 1) := by decide +kernel
theorem q_B_earlier_22 : decode m_B_earlier.2.1 22 = .ok (.istore_n 2, 1) := by decide +kernel
theorem q_B_earlier_23 : decode m_B_earlier.2.1 23 = .ok (.iconst 0, 1) := by decide +kernel
theorem q_B_earlier_24 : decode m_B_earlier.2.1 24 = .ok (.istore_n 3, 1) := by decide +kernel
theorem q_B_earlier_25 : decode m_B_earlier.2.1 25 = .ok (.iload_n 3, 1) := by decide +kernel
theorem q_B_earlier_26 : decode m_B_earlier.2.1 26 = .ok (.aload_n 0, 1) := by decide +kernel
theorem q_B_earlier_27 : decode m_B_earlier.2.1 27 = .ok (.getfield 23, 3) := by decide +kernel
theorem q_B_earlier_30 : decode m_B_earlier.2.1 30 = .ok (.getfield 71, 3) := by decide +kernel
theorem q_B_earlier_33 : decode m_B_earlier.2.1 33 = .ok (.if_icmp .ge 36, 3) := by decide +kernel
theorem q_B_earlier_36 : decode m_B_earlier.2.1 36 = .ok (.aload_n 0, 1) := by decide +kernel
theorem q_B_earlier_37 : decode m_B_earlier.2.1 37 = .ok (.getfield 50, 3) := by decide +kernel
theorem q_B_earlier_40 : decode m_B_earlier.2.1 40 = .ok (.iload_n 3, 1) := by decide +kernel
theorem q_B_earlier_41 : decode m_B_earlier.2.1 41 = .ok (.invokestatic 90, 3) := by decide +kernel
theorem q_B_earlier_44 : decode m_B_earlier.2.1 44 = .ok (.ifCond .eq 19, 3) := by decide +kernel
theorem q_B_earlier_47 : decode m_B_earlier.2.1 47 = .ok (.aload_n 0, 1) := by decide +kernel
theorem q_B_earlier_48 : decode m_B_earlier.2.1 48 = .ok (.getfield 23, 3) := by decide +kernel
theorem q_B_earlier_51 : decode m_B_earlier.2.1 51 = .ok (.getfield 216, 3) := by decide +kernel
theorem q_B_earlier_54 : decode m_B_earlier.2.1 54 = .ok (.iload_n 3, 1) := by decide +kernel
theorem q_B_earlier_55 : decode m_B_earlier.2.1 55 = .ok (.iaload, 1) := by decide +kernel
theorem q_B_earlier_56 : decode m_B_earlier.2.1 56 = .ok (.iload_n 1, 1) := by decide +kernel
theorem q_B_earlier_57 : decode m_B_earlier.2.1 57 = .ok (.if_icmp .ge 6, 3) := by decide +kernel
theorem q_B_earlier_60 : decode m_B_earlier.2.1 60 = .ok (.iinc 2 1, 3) := by decide +kernel
theorem q_B_earlier_63 : decode m_B_earlier.2.1 63 = .ok (.iinc 3 1, 3) := by decide +kernel
theorem q_B_earlier_66 : decode m_B_earlier.2.1 66 = .ok (.goto (-41), 3) := by decide +kernel
theorem q_B_earlier_69 : decode m_B_earlier.2.1 69 = .ok (.iload_n 2, 1) := by decide +kernel
theorem q_B_earlier_70 : decode m_B_earlier.2.1 70 = .ok (.ireturn, 1) := by decide +kernel
theorem q_B_holds_0 : decode m_B_holds.2.1 0 = .ok (.aload_n 0, 1) := by decide +kernel
theorem q_B_holds_1 : decode m_B_holds.2.1 1 = .ok (.getfield 23, 3) := by decide +kernel
theorem q_B_holds_4 : decode m_B_holds.2.1 4 = .ok (.iload_n 1, 1) := by decide +kernel
theorem q_B_holds_5 : decode m_B_holds.2.1 5 = .ok (.invokevirtual 68, 3) := by decide +kernel
theorem q_B_holds_8 : decode m_B_holds.2.1 8 = .ok (.ifCond .eq 30, 3) := by decide +kernel
theorem q_B_holds_11 : decode m_B_holds.2.1 11 = .ok (.aload_n 0, 1) := by decide +kernel
theorem q_B_holds_12 : decode m_B_holds.2.1 12 = .ok (.getfield 50, 3) := by decide +kernel
theorem q_B_holds_15 : decode m_B_holds.2.1 15 = .ok (.iconst (-1), 1) := by decide +kernel
theorem q_B_holds_16 : decode m_B_holds.2.1 16 = .ok (.if_icmp .eq 22, 3) := by decide +kernel
theorem q_B_holds_19 : decode m_B_holds.2.1 19 = .ok (.aload_n 0, 1) := by decide +kernel
theorem q_B_holds_20 : decode m_B_holds.2.1 20 = .ok (.getfield 23, 3) := by decide +kernel
theorem q_B_holds_23 : decode m_B_holds.2.1 23 = .ok (.aload_n 0, 1) := by decide +kernel
theorem q_B_holds_24 : decode m_B_holds.2.1 24 = .ok (.getfield 50, 3) := by decide +kernel
theorem q_B_holds_27 : decode m_B_holds.2.1 27 = .ok (.iload_n 1, 1) := by decide +kernel
theorem q_B_holds_28 : decode m_B_holds.2.1 28 = .ok (.invokevirtual 219, 3) := by decide +kernel
theorem q_B_holds_31 : decode m_B_holds.2.1 31 = .ok (.ifCond .eq 7, 3) := by decide +kernel
theorem q_B_holds_34 : decode m_B_holds.2.1 34 = .ok (.iconst 1, 1) := by decide +kernel
theorem q_B_holds_35 : decode m_B_holds.2.1 35 = .ok (.goto 4, 3) := by decide +kernel
theorem q_B_holds_38 : decode m_B_holds.2.1 38 = .ok (.iconst 0, 1) := by decide +kernel
theorem q_B_holds_39 : decode m_B_holds.2.1 39 = .ok (.ireturn, 1) := by decide +kernel
theorem q_B_forget_0 : decode m_B_forget.2.1 0 = .ok (.aload_n 0, 1) := by decide +kernel
theorem q_B_forget_1 : decode m_B_forget.2.1 1 = .ok (.iconst (-1), 1) := by decide +kernel
theorem q_B_forget_2 : decode m_B_forget.2.1 2 = .ok (.putfield 50, 3) := by decide +kernel
theorem q_B_forget_5 : decode m_B_forget.2.1 5 = .ok (.aload_n 0, 1) := by decide +kernel
theorem q_B_forget_6 : decode m_B_forget.2.1 6 = .ok (.iconst 0, 1) := by decide +kernel
theorem q_B_forget_7 : decode m_B_forget.2.1 7 = .ok (.putfield 137, 3) := by decide +kernel
theorem q_B_forget_10 : decode m_B_forget.2.1 10 = .ok (.aload_n 0, 1) := by decide +kernel
theorem q_B_forget_11 : decode m_B_forget.2.1 11 = .ok (.iconst 0, 1) := by decide +kernel
theorem q_B_forget_12 : decode m_B_forget.2.1 12 = .ok (.putfield 222, 3) := by decide +kernel
theorem q_B_forget_15 : decode m_B_forget.2.1 15 = .ok (.aload_n 0, 1) := by decide +kernel
theorem q_B_forget_16 : decode m_B_forget.2.1 16 = .ok (.iconst 0, 1) := by decide +kernel
theorem q_B_forget_17 : decode m_B_forget.2.1 17 = .ok (.putfield 156, 3) := by decide +kernel
theorem q_B_forget_20 : decode m_B_forget.2.1 20 = .ok (.return_, 1) := by decide +kernel
theorem q_B_planOrNothing_0 : decode m_B_planOrNothing.2.1 0 = .ok (.aload_n 0, 1) := by decide +kernel
theorem q_B_planOrNothing_1 : decode m_B_planOrNothing.2.1 1 = .ok (.getfield 50, 3) := by decide +kernel
theorem q_B_planOrNothing_4 : decode m_B_planOrNothing.2.1 4 = .ok (.iconst (-1), 1) := by decide +kernel
theorem q_B_planOrNothing_5 : decode m_B_planOrNothing.2.1 5 = .ok (.if_icmp .ne 7, 3) := by decide +kernel
theorem q_B_planOrNothing_8 : decode m_B_planOrNothing.2.1 8 = .ok (.iconst 0, 1) := by decide +kernel
theorem q_B_planOrNothing_9 : decode m_B_planOrNothing.2.1 9 = .ok (.goto 7, 3) := by decide +kernel
theorem q_B_planOrNothing_12 : decode m_B_planOrNothing.2.1 12 = .ok (.aload_n 0, 1) := by decide +kernel
theorem q_B_planOrNothing_13 : decode m_B_planOrNothing.2.1 13 = .ok (.getfield 50, 3) := by decide +kernel
theorem q_B_planOrNothing_16 : decode m_B_planOrNothing.2.1 16 = .ok (.ireturn, 1) := by decide +kernel
theorem q_B_gainOfBest_0 : decode m_B_gainOfBest.2.1 0 = .ok (.aload_n 0, 1) := by decide +kernel
theorem q_B_gainOfBest_1 : decode m_B_gainOfBest.2.1 1 = .ok (.getfield 222, 3) := by decide +kernel
theorem q_B_gainOfBest_4 : decode m_B_gainOfBest.2.1 4 = .ok (.ifCond .ne 22, 3) := by decide +kernel
theorem q_B_gainOfBest_7 : decode m_B_gainOfBest.2.1 7 = .ok (.aload_n 0, 1) := by decide +kernel
theorem q_B_gainOfBest_8 : decode m_B_gainOfBest.2.1 8 = .ok (.aload_n 0, 1) := by decide +kernel
theorem q_B_gainOfBest_9 : decode m_B_gainOfBest.2.1 9 = .ok (.getfield 32, 3) := by decide +kernel
theorem q_B_gainOfBest_12 : decode m_B_gainOfBest.2.1 12 = .ok (.ldc2_w 225, 3) := by decide +kernel
theorem q_B_gainOfBest_15 : decode m_B_gainOfBest.2.1 15 = .ok (.invokevirtual 129, 3) := by decide +kernel
theorem q_B_gainOfBest_18 : decode m_B_gainOfBest.2.1 18 = .ok (.putfield 227, 3) := by decide +kernel
theorem q_B_gainOfBest_21 : decode m_B_gainOfBest.2.1 21 = .ok (.aload_n 0, 1) := by decide +kernel
theorem q_B_gainOfBest_22 : decode m_B_gainOfBest.2.1 22 = .ok (.iconst 1, 1) := by decide +kernel
theorem q_B_gainOfBest_23 : decode m_B_gainOfBest.2.1 23 = .ok (.putfield 222, 3) := by decide +kernel
theorem q_B_gainOfBest_26 : decode m_B_gainOfBest.2.1 26 = .ok (.aload_n 0, 1) := by decide +kernel
theorem q_B_gainOfBest_27 : decode m_B_gainOfBest.2.1 27 = .ok (.getfield 227, 3) := by decide +kernel
theorem q_B_gainOfBest_30 : decode m_B_gainOfBest.2.1 30 = .ok (.iconst (-1), 1) := by decide +kernel
theorem q_B_gainOfBest_31 : decode m_B_gainOfBest.2.1 31 = .ok (.if_icmp .ne 7, 3) := by decide +kernel
theorem q_B_gainOfBest_34 : decode m_B_gainOfBest.2.1 34 = .ok (.ldc2_w 119, 3) := by decide +kernel
theorem q_B_gainOfBest_37 : decode m_B_gainOfBest.2.1 37 = .ok (.lreturn, 1) := by decide +kernel
theorem q_B_gainOfBest_38 : decode m_B_gainOfBest.2.1 38 = .ok (.aload_n 0, 1) := by decide +kernel
theorem q_B_gainOfBest_39 : decode m_B_gainOfBest.2.1 39 = .ok (.getfield 32, 3) := by decide +kernel
theorem q_B_gainOfBest_42 : decode m_B_gainOfBest.2.1 42 = .ok (.iload_n 1, 1) := by decide +kernel
theorem q_B_gainOfBest_43 : decode m_B_gainOfBest.2.1 43 = .ok (.ldc2_w 174, 3) := by decide +kernel
theorem q_B_gainOfBest_46 : decode m_B_gainOfBest.2.1 46 = .ok (.invokevirtual 230, 3) := by decide +kernel
theorem q_B_gainOfBest_49 : decode m_B_gainOfBest.2.1 49 = .ok (.istore_n 2, 1) := by decide +kernel
theorem q_B_gainOfBest_50 : decode m_B_gainOfBest.2.1 50 = .ok (.aload_n 0, 1) := by decide +kernel
theorem q_B_gainOfBest_51 : decode m_B_gainOfBest.2.1 51 = .ok (.getfield 23, 3) := by decide +kernel
theorem q_B_gainOfBest_54 : decode m_B_gainOfBest.2.1 54 = .ok (.iload_n 2, 1) := by decide +kernel
theorem q_B_gainOfBest_55 : decode m_B_gainOfBest.2.1 55 = .ok (.invokevirtual 144, 3) := by decide +kernel
theorem q_B_gainOfBest_58 : decode m_B_gainOfBest.2.1 58 = .ok (.aload_n 0, 1) := by decide +kernel
theorem q_B_gainOfBest_59 : decode m_B_gainOfBest.2.1 59 = .ok (.getfield 23, 3) := by decide +kernel
theorem q_B_gainOfBest_62 : decode m_B_gainOfBest.2.1 62 = .ok (.aload_n 0, 1) := by decide +kernel
theorem q_B_gainOfBest_63 : decode m_B_gainOfBest.2.1 63 = .ok (.getfield 227, 3) := by decide +kernel
theorem q_B_gainOfBest_66 : decode m_B_gainOfBest.2.1 66 = .ok (.invokevirtual 144, 3) := by decide +kernel
theorem q_B_gainOfBest_69 : decode m_B_gainOfBest.2.1 69 = .ok (.lsub, 1) := by decide +kernel
theorem q_B_gainOfBest_70 : decode m_B_gainOfBest.2.1 70 = .ok (.lreturn, 1) := by decide +kernel
theorem q_B_clashingMusts_0 : decode m_B_clashingMusts.2.1 0 = .ok (.aload_n 0, 1) := by decide +kernel
theorem q_B_clashingMusts_1 : decode m_B_clashingMusts.2.1 1 = .ok (.getfield 23, 3) := by decide +kernel
theorem q_B_clashingMusts_4 : decode m_B_clashingMusts.2.1 4 = .ok (.getfield 87, 3) := by decide +kernel
theorem q_B_clashingMusts_7 : decode m_B_clashingMusts.2.1 7 = .ok (.istore_n 1, 1) := by decide +kernel
theorem q_B_clashingMusts_8 : decode m_B_clashingMusts.2.1 8 = .ok (.iconst 0, 1) := by decide +kernel
theorem q_B_clashingMusts_9 : decode m_B_clashingMusts.2.1 9 = .ok (.istore_n 2, 1) := by decide +kernel
theorem q_B_clashingMusts_10 : decode m_B_clashingMusts.2.1 10 = .ok (.iload_n 2, 1) := by decide +kernel
theorem q_B_clashingMusts_11 : decode m_B_clashingMusts.2.1 11 = .ok (.aload_n 0, 1) := by decide +kernel
theorem q_B_clashingMusts_12 : decode m_B_clashingMusts.2.1 12 = .ok (.getfield 23, 3) := by decide +kernel
theorem q_B_clashingMusts_15 : decode m_B_clashingMusts.2.1 15 = .ok (.getfield 71, 3) := by decide +kernel
theorem q_B_clashingMusts_18 : decode m_B_clashingMusts.2.1 18 = .ok (.if_icmp .ge 35, 3) := by decide +kernel
theorem q_B_clashingMusts_21 : decode m_B_clashingMusts.2.1 21 = .ok (.iload_n 1, 1) := by decide +kernel
theorem q_B_clashingMusts_22 : decode m_B_clashingMusts.2.1 22 = .ok (.iconst 1, 1) := by decide +kernel
theorem q_B_clashingMusts_23 : decode m_B_clashingMusts.2.1 23 = .ok (.iload_n 2, 1) := by decide +kernel
theorem q_B_clashingMusts_24 : decode m_B_clashingMusts.2.1 24 = .ok (.ishl, 1) := by decide +kernel
theorem q_B_clashingMusts_25 : decode m_B_clashingMusts.2.1 25 = .ok (.iconst (-1), 1) := by decide +kernel
theorem q_B_clashingMusts_26 : decode m_B_clashingMusts.2.1 26 = .ok (.ixor, 1) := by decide +kernel
theorem q_B_clashingMusts_27 : decode m_B_clashingMusts.2.1 27 = .ok (.iand, 1) := by decide +kernel
theorem q_B_clashingMusts_28 : decode m_B_clashingMusts.2.1 28 = .ok (.istore_n 3, 1) := by decide +kernel
theorem q_B_clashingMusts_29 : decode m_B_clashingMusts.2.1 29 = .ok (.iload_n 3, 1) := by decide +kernel
theorem q_B_clashingMusts_30 : decode m_B_clashingMusts.2.1 30 = .ok (.iload_n 1, 1) := by decide +kernel
theorem q_B_clashingMusts_31 : decode m_B_clashingMusts.2.1 31 = .ok (.if_icmp .eq 16, 3) := by decide +kernel
theorem q_B_clashingMusts_34 : decode m_B_clashingMusts.2.1 34 = .ok (.aload_n 0, 1) := by decide +kernel
theorem q_B_clashingMusts_35 : decode m_B_clashingMusts.2.1 35 = .ok (.getfield 32, 3) := by decide +kernel
theorem q_B_clashingMusts_38 : decode m_B_clashingMusts.2.1 38 = .ok (.iload_n 3, 1) := by decide +kernel
theorem q_B_clashingMusts_39 : decode m_B_clashingMusts.2.1 39 = .ok (.invokevirtual 159, 3) := by decide +kernel
theorem q_B_clashingMusts_42 : decode m_B_clashingMusts.2.1 42 = .ok (.ifCond .ne 5, 3) := by decide +kernel
theorem q_B_clashingMusts_45 : decode m_B_clashingMusts.2.1 45 = .ok (.iload_n 3, 1) := by decide +kernel
theorem q_B_clashingMusts_46 : decode m_B_clashingMusts.2.1 46 = .ok (.istore_n 1, 1) := by decide +kernel
theorem q_B_clashingMusts_47 : decode m_B_clashingMusts.2.1 47 = .ok (.iinc 2 1, 3) := by decide +kernel
theorem q_B_clashingMusts_50 : decode m_B_clashingMusts.2.1 50 = .ok (.goto (-40), 3) := by decide +kernel
theorem q_B_clashingMusts_53 : decode m_B_clashingMusts.2.1 53 = .ok (.iload_n 1, 1) := by decide +kernel
theorem q_B_clashingMusts_54 : decode m_B_clashingMusts.2.1 54 = .ok (.ireturn, 1) := by decide +kernel
theorem q_B_countOfThingsBefore_0 : decode m_B_countOfThingsBefore.2.1 0 = .ok (.iconst 0, 1) := by decide +kernel
theorem q_B_countOfThingsBefore_1 : decode m_B_countOfThingsBefore.2.1 1 = .ok (.istore_n 2, 1) := by decide +kernel
theorem q_B_countOfThingsBefore_2 : decode m_B_countOfThingsBefore.2.1 2 = .ok (.iconst 0, 1) := by decide +kernel
theorem q_B_countOfThingsBefore_3 : decode m_B_countOfThingsBefore.2.1 3 = .ok (.istore_n 3, 1) := by decide +kernel
theorem q_B_countOfThingsBefore_4 : decode m_B_countOfThingsBefore.2.1 4 = .ok (.iload_n 3, 1) := by decide +kernel
theorem q_B_countOfThingsBefore_5 : decode m_B_countOfThingsBefore.2.1 5 = .ok (.aload_n 0, 1) := by decide +kernel
theorem q_B_countOfThingsBefore_6 : decode m_B_countOfThingsBefore.2.1 6 = .ok (.getfield 23, 3) := by decide +kernel
theorem q_B_countOfThingsBefore_9 : decode m_B_countOfThingsBefore.2.1 9 = .ok (.getfield 54, 3) := by decide +kernel
theorem q_B_countOfThingsBefore_12 : decode m_B_countOfThingsBefore.2.1 12 = .ok (.if_icmp .ge 24, 3) := by decide +kernel
theorem q_B_countOfThingsBefore_15 : decode m_B_countOfThingsBefore.2.1 15 = .ok (.aload_n 0, 1) := by decide +kernel
theorem q_B_countOfThingsBefore_16 : decode m_B_countOfThingsBefore.2.1 16 = .ok (.getfield 23, 3) := by decide +kernel
theorem q_B_countOfThingsBefore_19 : decode m_B_countOfThingsBefore.2.1 19 = .ok (.iload_n 3, 1) := by decide +kernel
theorem q_B_countOfThingsBefore_20 : decode m_B_countOfThingsBefore.2.1 20 = .ok (.iload_n 1, 1) := by decide +kernel
theorem q_B_countOfThingsBefore_21 : decode m_B_countOfThingsBefore.2.1 21 = .ok (.invokevirtual 234, 3) := by decide +kernel
theorem q_B_countOfThingsBefore_24 : decode m_B_countOfThingsBefore.2.1 24 = .ok (.ifCond .eq 6, 3) := by decide +kernel
theorem q_B_countOfThingsBefore_27 : decode m_B_countOfThingsBefore.2.1 27 = .ok (.iinc 2 1, 3) := by decide +kernel
theorem q_B_countOfThingsBefore_30 : decode m_B_countOfThingsBefore.2.1 30 = .ok (.iinc 3 1, 3) := by decide +kernel
theorem q_B_countOfThingsBefore_33 : decode m_B_countOfThingsBefore.2.1 33 = .ok (.goto (-29), 3) := by decide +kernel
theorem q_B_countOfThingsBefore_36 : decode m_B_countOfThingsBefore.2.1 36 = .ok (.iload_n 2, 1) := by decide +kernel
theorem q_B_countOfThingsBefore_37 : decode m_B_countOfThingsBefore.2.1 37 = .ok (.ireturn, 1) := by decide +kernel
theorem q_B_isWithin_0 : decode m_B_isWithin.2.1 0 = .ok (.lload_n 0, 1) := by decide +kernel
theorem q_B_isWithin_1 : decode m_B_isWithin.2.1 1 = .ok (.lconst 0, 1) := by decide +kernel
theorem q_B_isWithin_2 : decode m_B_isWithin.2.1 2 = .ok (.lcmp, 1) := by decide +kernel
theorem q_B_isWithin_3 : decode m_B_isWithin.2.1 3 = .ok (.ifCond .lt 13, 3) := by decide +kernel
theorem q_B_isWithin_6 : decode m_B_isWithin.2.1 6 = .ok (.lload_n 0, 1) := by decide +kernel
theorem q_B_isWithin_7 : decode m_B_isWithin.2.1 7 = .ok (.lload_n 2, 1) := by decide +kernel
theorem q_B_isWithin_8 : decode m_B_isWithin.2.1 8 = .ok (.lcmp, 1) := by decide +kernel
theorem q_B_isWithin_9 : decode m_B_isWithin.2.1 9 = .ok (.ifCond .gt 7, 3) := by decide +kernel
theorem q_B_isWithin_12 : decode m_B_isWithin.2.1 12 = .ok (.iconst 1, 1) := by decide +kernel
theorem q_B_isWithin_13 : decode m_B_isWithin.2.1 13 = .ok (.goto 4, 3) := by decide +kernel
theorem q_B_isWithin_16 : decode m_B_isWithin.2.1 16 = .ok (.iconst 0, 1) := by decide +kernel
theorem q_B_isWithin_17 : decode m_B_isWithin.2.1 17 = .ok (.ireturn, 1) := by decide +kernel
theorem q_B_isDistrict_0 : decode m_B_isDistrict.2.1 0 = .ok (.iload_n 0, 1) := by decide +kernel
theorem q_B_isDistrict_1 : decode m_B_isDistrict.2.1 1 = .ok (.ifCond .lt 12, 3) := by decide +kernel
theorem q_B_isDistrict_4 : decode m_B_isDistrict.2.1 4 = .ok (.iload_n 0, 1) := by decide +kernel
theorem q_B_isDistrict_5 : decode m_B_isDistrict.2.1 5 = .ok (.iconst 4, 1) := by decide +kernel
theorem q_B_isDistrict_6 : decode m_B_isDistrict.2.1 6 = .ok (.if_icmp .ge 7, 3) := by decide +kernel
theorem q_B_isDistrict_9 : decode m_B_isDistrict.2.1 9 = .ok (.iconst 1, 1) := by decide +kernel
theorem q_B_isDistrict_10 : decode m_B_isDistrict.2.1 10 = .ok (.goto 4, 3) := by decide +kernel
theorem q_B_isDistrict_13 : decode m_B_isDistrict.2.1 13 = .ok (.iconst 0, 1) := by decide +kernel
theorem q_B_isDistrict_14 : decode m_B_isDistrict.2.1 14 = .ok (.ireturn, 1) := by decide +kernel
