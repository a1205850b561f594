theorem q_M_init_0 : decode m_M_init.2.1 0 = .ok (.aload_n 0, 1) := by decide +kernel
theorem q_M_init_1 : decode m_M_init.2.1 1 = .ok (.invokespecial 1, 3) := by decide +kernel
theorem q_M_init_4 : decode m_M_init.2.1 4 = .ok (.aload_n 0, 1) := by decide +kernel
theorem q_M_init_5 : decode m_M_init.2.1 5 = .ok (.bipush 12, 2) := by decide +kernel
theorem q_M_init_7 : decode m_M_init.2.1 7 = .ok (.newarray .int, 2) := by decide +kernel
theorem q_M_init_9 : decode m_M_init.2.1 9 = .ok (.putfield 7, 3) := by decide +kernel
theorem q_M_init_12 : decode m_M_init.2.1 12 = .ok (.aload_n 0, 1) := by decide +kernel
theorem q_M_init_13 : decode m_M_init.2.1 13 = .ok (.bipush 12, 2) := by decide +kernel
theorem q_M_init_15 : decode m_M_init.2.1 15 = .ok (.newarray .int, 2) := by decide +kernel
theorem q_M_init_17 : decode m_M_init.2.1 17 = .ok (.putfield 13, 3) := by decide +kernel
theorem q_M_init_20 : decode m_M_init.2.1 20 = .ok (.aload_n 0, 1) := by decide +kernel
theorem q_M_init_21 : decode m_M_init.2.1 21 = .ok (.bipush 14, 2) := by decide +kernel
theorem q_M_init_23 : decode m_M_init.2.1 23 = .ok (.newarray .int, 2) := by decide +kernel
theorem q_M_init_25 : decode m_M_init.2.1 25 = .ok (.putfield 16, 3) := by decide +kernel
theorem q_M_init_28 : decode m_M_init.2.1 28 = .ok (.aload_n 0, 1) := by decide +kernel
theorem q_M_init_29 : decode m_M_init.2.1 29 = .ok (.bipush 14, 2) := by decide +kernel
theorem q_M_init_31 : decode m_M_init.2.1 31 = .ok (.newarray .int, 2) := by decide +kernel
theorem q_M_init_33 : decode m_M_init.2.1 33 = .ok (.putfield 19, 3) := by decide +kernel
theorem q_M_init_36 : decode m_M_init.2.1 36 = .ok (.aload_n 0, 1) := by decide +kernel
theorem q_M_init_37 : decode m_M_init.2.1 37 = .ok (.bipush 14, 2) := by decide +kernel
theorem q_M_init_39 : decode m_M_init.2.1 39 = .ok (.newarray .long, 2) := by decide +kernel
theorem q_M_init_41 : decode m_M_init.2.1 41 = .ok (.putfield 22, 3) := by decide +kernel
theorem q_M_init_44 : decode m_M_init.2.1 44 = .ok (.aload_n 0, 1) := by decide +kernel
theorem q_M_init_45 : decode m_M_init.2.1 45 = .ok (.bipush 14, 2) := by decide +kernel
theorem q_M_init_47 : decode m_M_init.2.1 47 = .ok (.newarray .long, 2) := by decide +kernel
theorem q_M_init_49 : decode m_M_init.2.1 49 = .ok (.putfield 26, 3) := by decide +kernel
theorem q_M_init_52 : decode m_M_init.2.1 52 = .ok (.aload_n 0, 1) := by decide +kernel
theorem q_M_init_53 : decode m_M_init.2.1 53 = .ok (.bipush 6, 2) := by decide +kernel
theorem q_M_init_55 : decode m_M_init.2.1 55 = .ok (.newarray .long, 2) := by decide +kernel
theorem q_M_init_57 : decode m_M_init.2.1 57 = .ok (.putfield 29, 3) := by decide +kernel
theorem q_M_init_60 : decode m_M_init.2.1 60 = .ok (.aload_n 0, 1) := by decide +kernel
theorem q_M_init_61 : decode m_M_init.2.1 61 = .ok (.bipush 20, 2) := by decide +kernel
theorem q_M_init_63 : decode m_M_init.2.1 63 = .ok (.newarray .int, 2) := by decide +kernel
theorem q_M_init_65 : decode m_M_init.2.1 65 = .ok (.putfield 32, 3) := by decide +kernel
theorem q_M_init_68 : decode m_M_init.2.1 68 = .ok (.aload_n 0, 1) := by decide +kernel
theorem q_M_init_69 : decode m_M_init.2.1 69 = .ok (.bipush 20, 2) := by decide +kernel
theorem q_M_init_71 : decode m_M_init.2.1 71 = .ok (.newarray .int, 2) := by decide +kernel
theorem q_M_init_73 : decode m_M_init.2.1 73 = .ok (.putfield 35, 3) := by decide +kernel
theorem q_M_init_76 : decode m_M_init.2.1 76 = .ok (.aload_n 0, 1) := by decide +kernel
theorem q_M_init_77 : decode m_M_init.2.1 77 = .ok (.bipush 20, 2) := by decide +kernel
theorem q_M_init_79 : decode m_M_init.2.1 79 = .ok (.newarray .long, 2) := by decide +kernel
theorem q_M_init_81 : decode m_M_init.2.1 81 = .ok (.putfield 38, 3) := by decide +kernel
theorem q_M_init_84 : decode m_M_init.2.1 84 = .ok (.aload_n 0, 1) := by decide +kernel
theorem q_M_init_85 : decode m_M_init.2.1 85 = .ok (.ldc2_w 41, 3) := by decide +kernel
theorem q_M_init_88 : decode m_M_init.2.1 88 = .ok (.putfield 43, 3) := by decide +kernel
theorem q_M_init_91 : decode m_M_init.2.1 91 = .ok (.aload_n 0, 1) := by decide +kernel
theorem q_M_init_92 : decode m_M_init.2.1 92 = .ok (.iconst (-1), 1) := by decide +kernel
theorem q_M_init_93 : decode m_M_init.2.1 93 = .ok (.putfield 47, 3) := by decide +kernel
theorem q_M_init_96 : decode m_M_init.2.1 96 = .ok (.aload_n 0, 1) := by decide +kernel
theorem q_M_init_97 : decode m_M_init.2.1 97 = .ok (.bipush 6, 2) := by decide +kernel
theorem q_M_init_99 : decode m_M_init.2.1 99 = .ok (.newarray .long, 2) := by decide +kernel
theorem q_M_init_101 : decode m_M_init.2.1 101 = .ok (.putfield 51, 3) := by decide +kernel
theorem q_M_init_104 : decode m_M_init.2.1 104 = .ok (.aload_n 0, 1) := by decide +kernel
theorem q_M_init_105 : decode m_M_init.2.1 105 = .ok (.iconst 4, 1) := by decide +kernel
theorem q_M_init_106 : decode m_M_init.2.1 106 = .ok (.newarray .long, 2) := by decide +kernel
theorem q_M_init_108 : decode m_M_init.2.1 108 = .ok (.putfield 54, 3) := by decide +kernel
theorem q_M_init_111 : decode m_M_init.2.1 111 = .ok (.aload_n 0, 1) := by decide +kernel
theorem q_M_init_112 : decode m_M_init.2.1 112 = .ok (.bipush 14, 2) := by decide +kernel
theorem q_M_init_114 : decode m_M_init.2.1 114 = .ok (.newarray .int, 2) := by decide +kernel
theorem q_M_init_116 : decode m_M_init.2.1 116 = .ok (.putfield 57, 3) := by decide +kernel
theorem q_M_init_119 : decode m_M_init.2.1 119 = .ok (.aload_n 0, 1) := by decide +kernel
theorem q_M_init_120 : decode m_M_init.2.1 120 = .ok (.bipush 12, 2) := by decide +kernel
theorem q_M_init_122 : decode m_M_init.2.1 122 = .ok (.newarray .int, 2) := by decide +kernel
theorem q_M_init_124 : decode m_M_init.2.1 124 = .ok (.putfield 60, 3) := by decide +kernel
theorem q_M_init_127 : decode m_M_init.2.1 127 = .ok (.aload_n 0, 1) := by decide +kernel
theorem q_M_init_128 : decode m_M_init.2.1 128 = .ok (.iload_n 1, 1) := by decide +kernel
theorem q_M_init_129 : decode m_M_init.2.1 129 = .ok (.iconst 1, 1) := by decide +kernel
theorem q_M_init_130 : decode m_M_init.2.1 130 = .ok (.if_icmp .ge 7, 3) := by decide +kernel
theorem q_M_init_133 : decode m_M_init.2.1 133 = .ok (.iconst 1, 1) := by decide +kernel
theorem q_M_init_134 : decode m_M_init.2.1 134 = .ok (.goto 15, 3) := by decide +kernel
theorem q_M_init_137 : decode m_M_init.2.1 137 = .ok (.iload_n 1, 1) := by decide +kernel
theorem q_M_init_138 : decode m_M_init.2.1 138 = .ok (.bipush 6, 2) := by decide +kernel
theorem q_M_init_140 : decode m_M_init.2.1 140 = .ok (.if_icmp .le 8, 3) := by decide +kernel
theorem q_M_init_143 : decode m_M_init.2.1 143 = .ok (.bipush 6, 2) := by decide +kernel
theorem q_M_init_145 : decode m_M_init.2.1 145 = .ok (.goto 4, 3) := by decide +kernel
theorem q_M_init_148 : decode m_M_init.2.1 148 = .ok (.iload_n 1, 1) := by decide +kernel
theorem q_M_init_149 : decode m_M_init.2.1 149 = .ok (.putfield 63, 3) := by decide +kernel
theorem q_M_init_152 : decode m_M_init.2.1 152 = .ok (.return_, 1) := by decide +kernel
theorem q_M_tell_0 : decode m_M_tell.2.1 0 = .ok (.aload_n 0, 1) := by decide +kernel
theorem q_M_tell_1 : decode m_M_tell.2.1 1 = .ok (.iconst (-1), 1) := by decide +kernel
theorem q_M_tell_2 : decode m_M_tell.2.1 2 = .ok (.putfield 47, 3) := by decide +kernel
theorem q_M_tell_5 : decode m_M_tell.2.1 5 = .ok (.aload_n 0, 1) := by decide +kernel
theorem q_M_tell_6 : decode m_M_tell.2.1 6 = .ok (.iconst 0, 1) := by decide +kernel
theorem q_M_tell_7 : decode m_M_tell.2.1 7 = .ok (.putfield 66, 3) := by decide +kernel
theorem q_M_tell_10 : decode m_M_tell.2.1 10 = .ok (.return_, 1) := by decide +kernel
theorem q_M_in_0 : decode m_M_in.2.1 0 = .ok (.lload_n 0, 1) := by decide +kernel
theorem q_M_in_1 : decode m_M_in.2.1 1 = .ok (.lload_n 2, 1) := by decide +kernel
theorem q_M_in_2 : decode m_M_in.2.1 2 = .ok (.lcmp, 1) := by decide +kernel
theorem q_M_in_3 : decode m_M_in.2.1 3 = .ok (.ifCond .lt 14, 3) := by decide +kernel
theorem q_M_in_6 : decode m_M_in.2.1 6 = .ok (.lload_n 0, 1) := by decide +kernel
theorem q_M_in_7 : decode m_M_in.2.1 7 = .ok (.lload 4, 2) := by decide +kernel
theorem q_M_in_9 : decode m_M_in.2.1 9 = .ok (.lcmp, 1) := by decide +kernel
theorem q_M_in_10 : decode m_M_in.2.1 10 = .ok (.ifCond .gt 7, 3) := by decide +kernel
theorem q_M_in_13 : decode m_M_in.2.1 13 = .ok (.iconst 1, 1) := by decide +kernel
theorem q_M_in_14 : decode m_M_in.2.1 14 = .ok (.goto 4, 3) := by decide +kernel
theorem q_M_in_17 : decode m_M_in.2.1 17 = .ok (.iconst 0, 1) := by decide +kernel
theorem q_M_in_18 : decode m_M_in.2.1 18 = .ok (.ireturn, 1) := by decide +kernel
theorem q_M_has_0 : decode m_M_has.2.1 0 = .ok (.iload_n 0, 1) := by decide +kernel
theorem q_M_has_1 : decode m_M_has.2.1 1 = .ok (.iload_n 1, 1) := by decide +kernel
theorem q_M_has_2 : decode m_M_has.2.1 2 = .ok (.ishr, 1) := by decide +kernel
theorem q_M_has_3 : decode m_M_has.2.1 3 = .ok (.iconst 1, 1) := by decide +kernel
theorem q_M_has_4 : decode m_M_has.2.1 4 = .ok (.iand, 1) := by decide +kernel
theorem q_M_has_5 : decode m_M_has.2.1 5 = .ok (.iconst 1, 1) := by decide +kernel
theorem q_M_has_6 : decode m_M_has.2.1 6 = .ok (.if_icmp .ne 7, 3) := by decide +kernel
theorem q_M_has_9 : decode m_M_has.2.1 9 = .ok (.iconst 1, 1) := by decide +kernel
theorem q_M_has_10 : decode m_M_has.2.1 10 = .ok (.goto 4, 3) := by decide +kernel
theorem q_M_has_13 : decode m_M_has.2.1 13 = .ok (.iconst 0, 1) := by decide +kernel
theorem q_M_has_14 : decode m_M_has.2.1 14 = .ok (.ireturn, 1) := by decide +kernel
theorem q_M_thing_0 : decode m_M_thing.2.1 0 = .ok (.iload_n 1, 1) := by decide +kernel
theorem q_M_thing_1 : decode m_M_thing.2.1 1 = .ok (.i2l, 1) := by decide +kernel
theorem q_M_thing_2 : decode m_M_thing.2.1 2 = .ok (.lconst 0, 1) := by decide +kernel
theorem q_M_thing_3 : decode m_M_thing.2.1 3 = .ok (.ldc2_w 70, 3) := by decide +kernel
theorem q_M_thing_6 : decode m_M_thing.2.1 6 = .ok (.invokestatic 72, 3) := by decide +kernel
theorem q_M_thing_9 : decode m_M_thing.2.1 9 = .ok (.ifCond .eq 12, 3) := by decide +kernel
theorem q_M_thing_12 : decode m_M_thing.2.1 12 = .ok (.aload_n 0, 1) := by decide +kernel
theorem q_M_thing_13 : decode m_M_thing.2.1 13 = .ok (.getfield 76, 3) := by decide +kernel
theorem q_M_thing_16 : decode m_M_thing.2.1 16 = .ok (.bipush 12, 2) := by decide +kernel
theorem q_M_thing_18 : decode m_M_thing.2.1 18 = .ok (.if_icmp .ne 5, 3) := by decide +kernel
theorem q_M_thing_21 : decode m_M_thing.2.1 21 = .ok (.iconst (-1), 1) := by decide +kernel
theorem q_M_thing_22 : decode m_M_thing.2.1 22 = .ok (.ireturn, 1) := by decide +kernel
theorem q_M_thing_23 : decode m_M_thing.2.1 23 = .ok (.aload_n 0, 1) := by decide +kernel
theorem q_M_thing_24 : decode m_M_thing.2.1 24 = .ok (.getfield 7, 3) := by decide +kernel
theorem q_M_thing_27 : decode m_M_thing.2.1 27 = .ok (.aload_n 0, 1) := by decide +kernel
theorem q_M_thing_28 : decode m_M_thing.2.1 28 = .ok (.getfield 76, 3) := by decide +kernel
theorem q_M_thing_31 : decode m_M_thing.2.1 31 = .ok (.iload_n 1, 1) := by decide +kernel
theorem q_M_thing_32 : decode m_M_thing.2.1 32 = .ok (.iastore, 1) := by decide +kernel
theorem q_M_thing_33 : decode m_M_thing.2.1 33 = .ok (.aload_n 0, 1) := by decide +kernel
theorem q_M_thing_34 : decode m_M_thing.2.1 34 = .ok (.getfield 13, 3) := by decide +kernel
theorem q_M_thing_37 : decode m_M_thing.2.1 37 = .ok (.aload_n 0, 1) := by decide +kernel
theorem q_M_thing_38 : decode m_M_thing.2.1 38 = .ok (.getfield 76, 3) := by decide +kernel
theorem q_M_thing_41 : decode m_M_thing.2.1 41 = .ok (.iconst 0, 1) := by decide +kernel
theorem q_M_thing_42 : decode m_M_thing.2.1 42 = .ok (.iastore, 1) := by decide +kernel
theorem q_M_thing_43 : decode m_M_thing.2.1 43 = .ok (.aload_n 0, 1) := by decide +kernel
theorem q_M_thing_44 : decode m_M_thing.2.1 44 = .ok (.dup, 1) := by decide +kernel
theorem q_M_thing_45 : decode m_M_thing.2.1 45 = .ok (.getfield 76, 3) := by decide +kernel
theorem q_M_thing_48 : decode m_M_thing.2.1 48 = .ok (.iconst 1, 1) := by decide +kernel
theorem q_M_thing_49 : decode m_M_thing.2.1 49 = .ok (.iadd, 1) := by decide +kernel
theorem q_M_thing_50 : decode m_M_thing.2.1 50 = .ok (.putfield 76, 3) := by decide +kernel
theorem q_M_thing_53 : decode m_M_thing.2.1 53 = .ok (.aload_n 0, 1) := by decide +kernel
theorem q_M_thing_54 : decode m_M_thing.2.1 54 = .ok (.invokevirtual 79, 3) := by decide +kernel
theorem q_M_thing_57 : decode m_M_thing.2.1 57 = .ok (.aload_n 0, 1) := by decide +kernel
theorem q_M_thing_58 : decode m_M_thing.2.1 58 = .ok (.getfield 76, 3) := by decide +kernel
theorem q_M_thing_61 : decode m_M_thing.2.1 61 = .ok (.iconst 1, 1) := by decide +kernel
theorem q_M_thing_62 : decode m_M_thing.2.1 62 = .ok (.isub, 1) := by decide +kernel
theorem q_M_thing_63 : decode m_M_thing.2.1 63 = .ok (.ireturn, 1) := by decide +kernel
theorem q_M_choice_0 : decode m_M_choice.2.1 0 = .ok (.iload_n 1, 1) := by decide +kernel
theorem q_M_choice_1 : decode m_M_choice.2.1 1 = .ok (.i2l, 1) := by decide +kernel
theorem q_M_choice_2 : decode m_M_choice.2.1 2 = .ok (.lconst 0, 1) := by decide +kernel
theorem q_M_choice_3 : decode m_M_choice.2.1 3 = .ok (.aload_n 0, 1) := by decide +kernel
theorem q_M_choice_4 : decode m_M_choice.2.1 4 = .ok (.getfield 76, 3) := by decide +kernel
theorem q_M_choice_7 : decode m_M_choice.2.1 7 = .ok (.i2l, 1) := by decide +kernel
theorem q_M_choice_8 : decode m_M_choice.2.1 8 = .ok (.lconst 1, 1) := by decide +kernel
theorem q_M_choice_9 : decode m_M_choice.2.1 9 = .ok (.lsub, 1) := by decide +kernel
theorem q_M_choice_10 : decode m_M_choice.2.1 10 = .ok (.invokestatic 72, 3) := by decide +kernel
theorem q_M_choice_13 : decode m_M_choice.2.1 13 = .ok (.ifCond .eq 46, 3) := by decide +kernel
theorem q_M_choice_16 : decode m_M_choice.2.1 16 = .ok (.iload_n 2, 1) := by decide +kernel
theorem q_M_choice_17 : decode m_M_choice.2.1 17 = .ok (.i2l, 1) := by decide +kernel
theorem q_M_choice_18 : decode m_M_choice.2.1 18 = .ok (.lconst 0, 1) := by decide +kernel
theorem q_M_choice_19 : decode m_M_choice.2.1 19 = .ok (.aload_n 0, 1) := by decide +kernel
theorem q_M_choice_20 : decode m_M_choice.2.1 20 = .ok (.getfield 63, 3) := by decide +kernel
theorem q_M_choice_23 : decode m_M_choice.2.1 23 = .ok (.i2l, 1) := by decide +kernel
theorem q_M_choice_24 : decode m_M_choice.2.1 24 = .ok (.lconst 1, 1) := by decide +kernel
theorem q_M_choice_25 : decode m_M_choice.2.1 25 = .ok (.lsub, 1) := by decide +kernel
theorem q_M_choice_26 : decode m_M_choice.2.1 26 = .ok (.invokestatic 72, 3) := by decide +kernel
theorem q_M_choice_29 : decode m_M_choice.2.1 29 = .ok (.ifCond .eq 30, 3) := by decide +kernel
theorem q_M_choice_32 : decode m_M_choice.2.1 32 = .ok (.lload_n 3, 1) := by decide +kernel
theorem q_M_choice_33 : decode m_M_choice.2.1 33 = .ok (.lconst 0, 1) := by decide +kernel
theorem q_M_choice_34 : decode m_M_choice.2.1 34 = .ok (.ldc2_w 82, 3) := by decide +kernel
theorem q_M_choice_37 : decode m_M_choice.2.1 37 = .ok (.invokestatic 72, 3) := by decide +kernel
theorem q_M_choice_40 : decode m_M_choice.2.1 40 = .ok (.ifCond .eq 19, 3) := by decide +kernel
theorem q_M_choice_43 : decode m_M_choice.2.1 43 = .ok (.lload 5, 2) := by decide +kernel
theorem q_M_choice_45 : decode m_M_choice.2.1 45 = .ok (.lconst 0, 1) := by decide +kernel
theorem q_M_choice_46 : decode m_M_choice.2.1 46 = .ok (.ldc2_w 82, 3) := by decide +kernel
theorem q_M_choice_49 : decode m_M_choice.2.1 49 = .ok (.invokestatic 72, 3) := by decide +kernel
theorem q_M_choice_52 : decode m_M_choice.2.1 52 = .ok (.ifCond .eq 7, 3) := by decide +kernel
theorem q_M_choice_55 : decode m_M_choice.2.1 55 = .ok (.iconst 1, 1) := by decide +kernel
theorem q_M_choice_56 : decode m_M_choice.2.1 56 = .ok (.goto 4, 3) := by decide +kernel
theorem q_M_choice_59 : decode m_M_choice.2.1 59 = .ok (.iconst 0, 1) := by decide +kernel
theorem q_M_choice_60 : decode m_M_choice.2.1 60 = .ok (.istore 7, 2) := by decide +kernel
theorem q_M_choice_62 : decode m_M_choice.2.1 62 = .ok (.iload 7, 2) := by decide +kernel
theorem q_M_choice_64 : decode m_M_choice.2.1 64 = .ok (.ifCond .eq 12, 3) := by decide +kernel
theorem q_M_choice_67 : decode m_M_choice.2.1 67 = .ok (.aload_n 0, 1) := by decide +kernel
theorem q_M_choice_68 : decode m_M_choice.2.1 68 = .ok (.getfield 84, 3) := by decide +kernel
theorem q_M_choice_71 : decode m_M_choice.2.1 71 = .ok (.bipush 14, 2) := by decide +kernel
theorem q_M_choice_73 : decode m_M_choice.2.1 73 = .ok (.if_icmp .ne 5, 3) := by decide +kernel
theorem q_M_choice_76 : decode m_M_choice.2.1 76 = .ok (.iconst (-1), 1) := by decide +kernel
theorem q_M_choice_77 : decode m_M_choice.2.1 77 = .ok (.ireturn, 1) := by decide +kernel
theorem q_M_choice_78 : decode m_M_choice.2.1 78 = .ok (.aload_n 0, 1) := by decide +kernel
theorem q_M_choice_79 : decode m_M_choice.2.1 79 = .ok (.getfield 16, 3) := by decide +kernel
theorem q_M_choice_82 : decode m_M_choice.2.1 82 = .ok (.aload_n 0, 1) := by decide +kernel
theorem q_M_choice_83 : decode m_M_choice.2.1 83 = .ok (.getfield 84, 3) := by decide +kernel
theorem q_M_choice_86 : decode m_M_choice.2.1 86 = .ok (.iload_n 1, 1) := by decide +kernel
theorem q_M_choice_87 : decode m_M_choice.2.1 87 = .ok (.iastore, 1) := by decide +kernel
theorem q_M_choice_88 : decode m_M_choice.2.1 88 = .ok (.aload_n 0, 1) := by decide +kernel
theorem q_M_choice_89 : decode m_M_choice.2.1 89 = .ok (.getfield 19, 3) := by decide +kernel
theorem q_M_choice_92 : decode m_M_choice.2.1 92 = .ok (.aload_n 0, 1) := by decide +kernel
theorem q_M_choice_93 : decode m_M_choice.2.1 93 = .ok (.getfield 84, 3) := by decide +kernel
theorem q_M_choice_96 : decode m_M_choice.2.1 96 = .ok (.iload_n 2, 1) := by decide +kernel
theorem q_M_choice_97 : decode m_M_choice.2.1 97 = .ok (.iastore, 1) := by decide +kernel
theorem q_M_choice_98 : decode m_M_choice.2.1 98 = .ok (.aload_n 0, 1) := by decide +kernel
theorem q_M_choice_99 : decode m_M_choice.2.1 99 = .ok (.getfield 22, 3) := by decide +kernel
theorem q_M_choice_102 : decode m_M_choice.2.1 102 = .ok (.aload_n 0, 1) := by decide +kernel
theorem q_M_choice_103 : decode m_M_choice.2.1 103 = .ok (.getfield 84, 3) := by decide +kernel
theorem q_M_choice_106 : decode m_M_choice.2.1 106 = .ok (.lload_n 3, 1) := by decide +kernel
theorem q_M_choice_107 : decode m_M_choice.2.1 107 = .ok (.lastore, 1) := by decide +kernel
theorem q_M_choice_108 : decode m_M_choice.2.1 108 = .ok (.aload_n 0, 1) := by decide +kernel
theorem q_M_choice_109 : decode m_M_choice.2.1 109 = .ok (.getfield 26, 3) := by decide +kernel
theorem q_M_choice_112 : decode m_M_choice.2.1 112 = .ok (.aload_n 0, 1) := by decide +kernel
theorem q_M_choice_113 : decode m_M_choice.2.1 113 = .ok (.getfield 84, 3) := by decide +kernel
theorem q_M_choice_116 : decode m_M_choice.2.1 116 = .ok (.lload 5, 2) := by decide +kernel
theorem q_M_choice_118 : decode m_M_choice.2.1 118 = .ok (.lastore, 1) := by decide +kernel
theorem q_M_choice_119 : decode m_M_choice.2.1 119 = .ok (.aload_n 0, 1) := by decide +kernel
theorem q_M_choice_120 : decode m_M_choice.2.1 120 = .ok (.dup, 1) := by decide +kernel
theorem q_M_choice_121 : decode m_M_choice.2.1 121 = .ok (.getfield 84, 3) := by decide +kernel
theorem q_M_choice_124 : decode m_M_choice.2.1 124 = .ok (.iconst 1, 1) := by decide +kernel
theorem q_M_choice_125 : decode m_M_choice.2.1 125 = .ok (.iadd, 1) := by decide +kernel
theorem q_M_choice_126 : decode m_M_choice.2.1 126 = .ok (.putfield 84, 3) := by decide +kernel
theorem q_M_choice_129 : decode m_M_choice.2.1 129 = .ok (.aload_n 0, 1) := by decide +kernel
theorem q_M_choice_130 : decode m_M_choice.2.1 130 = .ok (.invokevirtual 79, 3) := by decide +kernel
theorem q_M_choice_133 : decode m_M_choice.2.1 133 = .ok (.aload_n 0, 1) := by decide +kernel
theorem q_M_choice_134 : decode m_M_choice.2.1 134 = .ok (.getfield 84, 3) := by decide +kernel
theorem q_M_choice_137 : decode m_M_choice.2.1 137 = .ok (.iconst 1, 1) := by decide +kernel
theorem q_M_choice_138 : decode m_M_choice.2.1 138 = .ok (.isub, 1) := by decide +kernel
theorem q_M_choice_139 : decode m_M_choice.2.1 139 = .ok (.ireturn, 1) := by decide +kernel
theorem q_M_isChoice_0 : decode m_M_isChoice.2.1 0 = .ok (.iload_n 1, 1) := by decide +kernel
theorem q_M_isChoice_1 : decode m_M_isChoice.2.1 1 = .ok (.ifCond .lt 15, 3) := by decide +kernel
theorem q_M_isChoice_4 : decode m_M_isChoice.2.1 4 = .ok (.iload_n 1, 1) := by decide +kernel
theorem q_M_isChoice_5 : decode m_M_isChoice.2.1 5 = .ok (.aload_n 0, 1) := by decide +kernel
theorem q_M_isChoice_6 : decode m_M_isChoice.2.1 6 = .ok (.getfield 84, 3) := by decide +kernel
theorem q_M_isChoice_9 : decode m_M_isChoice.2.1 9 = .ok (.if_icmp .ge 7, 3) := by decide +kernel
theorem q_M_isChoice_12 : decode m_M_isChoice.2.1 12 = .ok (.iconst 1, 1) := by decide +kernel
theorem q_M_isChoice_13 : decode m_M_isChoice.2.1 13 = .ok (.goto 4, 3) := by decide +kernel
theorem q_M_isChoice_16 : decode m_M_isChoice.2.1 16 = .ok (.iconst 0, 1) := by decide +kernel
theorem q_M_isChoice_17 : decode m_M_isChoice.2.1 17 = .ok (.ireturn, 1) := by decide +kernel
theorem q_M_isYear_0 : decode m_M_isYear.2.1 0 = .ok (.iload_n 1, 1) := by decide +kernel
theorem q_M_isYear_1 : decode m_M_isYear.2.1 1 = .ok (.ifCond .lt 15, 3) := by decide +kernel
theorem q_M_isYear_4 : decode m_M_isYear.2.1 4 = .ok (.iload_n 1, 1) := by decide +kernel
theorem q_M_isYear_5 : decode m_M_isYear.2.1 5 = .ok (.aload_n 0, 1) := by decide +kernel
theorem q_M_isYear_6 : decode m_M_isYear.2.1 6 = .ok (.getfield 63, 3) := by decide +kernel
theorem q_M_isYear_9 : decode m_M_isYear.2.1 9 = .ok (.if_icmp .ge 7, 3) := by decide +kernel
theorem q_M_isYear_12 : decode m_M_isYear.2.1 12 = .ok (.iconst 1, 1) := by decide +kernel
theorem q_M_isYear_13 : decode m_M_isYear.2.1 13 = .ok (.goto 4, 3) := by decide +kernel
theorem q_M_isYear_16 : decode m_M_isYear.2.1 16 = .ok (.iconst 0, 1) := by decide +kernel
theorem q_M_isYear_17 : decode m_M_isYear.2.1 17 = .ok (.ireturn, 1) := by decide +kernel
theorem q_M_must_0 : decode m_M_must.2.1 0 = .ok (.aload_n 0, 1) := by decide +kernel
theorem q_M_must_1 : decode m_M_must.2.1 1 = .ok (.iload_n 1, 1) := by decide +kernel
theorem q_M_must_2 : decode m_M_must.2.1 2 = .ok (.invokevirtual 87, 3) := by decide +kernel
theorem q_M_must_5 : decode m_M_must.2.1 5 = .ok (.ifCond .eq 14, 3) := by decide +kernel
theorem q_M_must_8 : decode m_M_must.2.1 8 = .ok (.aload_n 0, 1) := by decide +kernel
theorem q_M_must_9 : decode m_M_must.2.1 9 = .ok (.getfield 91, 3) := by decide +kernel
theorem q_M_must_12 : decode m_M_must.2.1 12 = .ok (.iload_n 1, 1) := by decide +kernel
theorem q_M_must_13 : decode m_M_must.2.1 13 = .ok (.invokestatic 94, 3) := by decide +kernel
theorem q_M_must_16 : decode m_M_must.2.1 16 = .ok (.ifCond .eq 5, 3) := by decide +kernel
theorem q_M_must_19 : decode m_M_must.2.1 19 = .ok (.iconst 0, 1) := by decide +kernel
theorem q_M_must_20 : decode m_M_must.2.1 20 = .ok (.ireturn, 1) := by decide +kernel
theorem q_M_must_21 : decode m_M_must.2.1 21 = .ok (.aload_n 0, 1) := by decide +kernel
theorem q_M_must_22 : decode m_M_must.2.1 22 = .ok (.dup, 1) := by decide +kernel
theorem q_M_must_23 : decode m_M_must.2.1 23 = .ok (.getfield 91, 3) := by decide +kernel
theorem q_M_must_26 : decode m_M_must.2.1 26 = .ok (.iconst 1, 1) := by decide +kernel
theorem q_M_must_27 : decode m_M_must.2.1 27 = .ok (.iload_n 1, 1) := by decide +kernel
theorem q_M_must_28 : decode m_M_must.2.1 28 = .ok (.ishl, 1) := by decide +kernel
theorem q_M_must_29 : decode m_M_must.2.1 29 = .ok (.ior, 1) := by decide +kernel
theorem q_M_must_30 : decode m_M_must.2.1 30 = .ok (.putfield 91, 3) := by decide +kernel
theorem q_M_must_33 : decode m_M_must.2.1 33 = .ok (.aload_n 0, 1) := by decide +kernel
theorem q_M_must_34 : decode m_M_must.2.1 34 = .ok (.invokevirtual 79, 3) := by decide +kernel
theorem q_M_must_37 : decode m_M_must.2.1 37 = .ok (.iconst 1, 1) := by decide +kernel
theorem q_M_must_38 : decode m_M_must.2.1 38 = .ok (.ireturn, 1) := by decide +kernel
theorem q_M_budget_0 : decode m_M_budget.2.1 0 = .ok (.aload_n 0, 1) := by decide +kernel
theorem q_M_budget_1 : decode m_M_budget.2.1 1 = .ok (.iload_n 1, 1) := by decide +kernel
theorem q_M_budget_2 : decode m_M_budget.2.1 2 = .ok (.invokevirtual 98, 3) := by decide +kernel
theorem q_M_budget_5 : decode m_M_budget.2.1 5 = .ok (.ifCond .eq 14, 3) := by decide +kernel
theorem q_M_budget_8 : decode m_M_budget.2.1 8 = .ok (.lload_n 2, 1) := by decide +kernel
theorem q_M_budget_9 : decode m_M_budget.2.1 9 = .ok (.lconst 0, 1) := by decide +kernel
theorem q_M_budget_10 : decode m_M_budget.2.1 10 = .ok (.ldc2_w 101, 3) := by decide +kernel
theorem q_M_budget_13 : decode m_M_budget.2.1 13 = .ok (.invokestatic 72, 3) := by decide +kernel
theorem q_M_budget_16 : decode m_M_budget.2.1 16 = .ok (.ifCond .ne 5, 3) := by decide +kernel
theorem q_M_budget_19 : decode m_M_budget.2.1 19 = .ok (.iconst 0, 1) := by decide +kernel
theorem q_M_budget_20 : decode m_M_budget.2.1 20 = .ok (.ireturn, 1) := by decide +kernel
theorem q_M_budget_21 : decode m_M_budget.2.1 21 = .ok (.aload_n 0, 1) := by decide +kernel
theorem q_M_budget_22 : decode m_M_budget.2.1 22 = .ok (.getfield 29, 3) := by decide +kernel
theorem q_M_budget_25 : decode m_M_budget.2.1 25 = .ok (.iload_n 1, 1) := by decide +kernel
theorem q_M_budget_26 : decode m_M_budget.2.1 26 = .ok (.lload_n 2, 1) := by decide +kernel
theorem q_M_budget_27 : decode m_M_budget.2.1 27 = .ok (.lastore, 1) := by decide +kernel
theorem q_M_budget_28 : decode m_M_budget.2.1 28 = .ok (.aload_n 0, 1) := by decide +kernel
theorem q_M_budget_29 : decode m_M_budget.2.1 29 = .ok (.invokevirtual 79, 3) := by decide +kernel
theorem q_M_budget_32 : decode m_M_budget.2.1 32 = .ok (.iconst 1, 1) := by decide +kernel
theorem q_M_budget_33 : decode m_M_budget.2.1 33 = .ok (.ireturn, 1) := by decide +kernel
theorem q_M_join_0 : decode m_M_join.2.1 0 = .ok (.aload_n 0, 1) := by decide +kernel
theorem q_M_join_1 : decode m_M_join.2.1 1 = .ok (.iload_n 1, 1) := by decide +kernel
theorem q_M_join_2 : decode m_M_join.2.1 2 = .ok (.invokevirtual 87, 3) := by decide +kernel
theorem q_M_join_5 : decode m_M_join.2.1 5 = .ok (.ifCond .eq 66, 3) := by decide +kernel
theorem q_M_join_8 : decode m_M_join.2.1 8 = .ok (.aload_n 0, 1) := by decide +kernel
theorem q_M_join_9 : decode m_M_join.2.1 9 = .ok (.iload_n 2, 1) := by decide +kernel
theorem q_M_join_10 : decode m_M_join.2.1 10 = .ok (.invokevirtual 87, 3) := by decide +kernel
theorem q_M_join_13 : decode m_M_join.2.1 13 = .ok (.ifCond .eq 58, 3) := by decide +kernel
theorem q_M_join_16 : decode m_M_join.2.1 16 = .ok (.lload_n 3, 1) := by decide +kernel
theorem q_M_join_17 : decode m_M_join.2.1 17 = .ok (.lconst 0, 1) := by decide +kernel
theorem q_M_join_18 : decode m_M_join.2.1 18 = .ok (.ldc2_w 82, 3) := by decide +kernel
theorem q_M_join_21 : decode m_M_join.2.1 21 = .ok (.invokestatic 72, 3) := by decide +kernel
theorem q_M_join_24 : decode m_M_join.2.1 24 = .ok (.ifCond .eq 47, 3) := by decide +kernel
theorem q_M_join_27 : decode m_M_join.2.1 27 = .ok (.iload_n 1, 1) := by decide +kernel
theorem q_M_join_28 : decode m_M_join.2.1 28 = .ok (.iload_n 2, 1) := by decide +kernel
theorem q_M_join_29 : decode m_M_join.2.1 29 = .ok (.if_icmp .eq 42, 3) := by decide +kernel
theorem q_M_join_32 : decode m_M_join.2.1 32 = .ok (.aload_n 0, 1) := by decide +kernel
theorem q_M_join_33 : decode m_M_join.2.1 33 = .ok (.getfield 19, 3) := by decide +kernel
theorem q_M_join_36 : decode m_M_join.2.1 36 = .ok (.iload_n 1, 1) := by decide +kernel
theorem q_M_join_37 : decode m_M_join.2.1 37 = .ok (.iaload, 1) := by decide +kernel
theorem q_M_join_38 : decode m_M_join.2.1 38 = .ok (.aload_n 0, 1) := by decide +kernel
theorem q_M_join_39 : decode m_M_join.2.1 39 = .ok (.getfield 19, 3) := by decide +kernel
theorem q_M_join_42 : decode m_M_join.2.1 42 = .ok (.iload_n 2, 1) := by decide +kernel
theorem q_M_join_43 : decode m_M_join.2.1 43 = .ok (.iaload, 1) := by decide +kernel
theorem q_M_join_44 : decode m_M_join.2.1 44 = .ok (.if_icmp .ne 27, 3) := by decide +kernel
theorem q_M_join_47 : decode m_M_join.2.1 47 = .ok (.aload_n 0, 1) := by decide +kernel
theorem q_M_join_48 : decode m_M_join.2.1 48 = .ok (.getfield 16, 3) := by decide +kernel
theorem q_M_join_51 : decode m_M_join.2.1 51 = .ok (.iload_n 1, 1) := by decide +kernel
theorem q_M_join_52 : decode m_M_join.2.1 52 = .ok (.iaload, 1) := by decide +kernel
theorem q_M_join_53 : decode m_M_join.2.1 53 = .ok (.aload_n 0, 1) := by decide +kernel
theorem q_M_join_54 : decode m_M_join.2.1 54 = .ok (.getfield 16, 3) := by decide +kernel
theorem q_M_join_57 : decode m_M_join.2.1 57 = .ok (.iload_n 2, 1) := by decide +kernel
theorem q_M_join_58 : decode m_M_join.2.1 58 = .ok (.iaload, 1) := by decide +kernel
theorem q_M_join_59 : decode m_M_join.2.1 59 = .ok (.if_icmp .eq 12, 3) := by decide +kernel
theorem q_M_join_62 : decode m_M_join.2.1 62 = .ok (.aload_n 0, 1) := by decide +kernel
theorem q_M_join_63 : decode m_M_join.2.1 63 = .ok (.getfield 103, 3) := by decide +kernel
theorem q_M_join_66 : decode m_M_join.2.1 66 = .ok (.bipush 20, 2) := by decide +kernel
theorem q_M_join_68 : decode m_M_join.2.1 68 = .ok (.if_icmp .ne 5, 3) := by decide +kernel
theorem q_M_join_71 : decode m_M_join.2.1 71 = .ok (.iconst 0, 1) := by decide +kernel
theorem q_M_join_72 : decode m_M_join.2.1 72 = .ok (.ireturn, 1) := by decide +kernel
theorem q_M_join_73 : decode m_M_join.2.1 73 = .ok (.iconst 0, 1) := by decide +kernel
theorem q_M_join_74 : decode m_M_join.2.1 74 = .ok (.istore 5, 2) := by decide +kernel
theorem q_M_join_76 : decode m_M_join.2.1 76 = .ok (.iload 5, 2) := by decide +kernel
theorem q_M_join_78 : decode m_M_join.2.1 78 = .ok (.aload_n 0, 1) := by decide +kernel
theorem q_M_join_79 : decode m_M_join.2.1 79 = .ok (.getfield 103, 3) := by decide +kernel
theorem q_M_join_82 : decode m_M_join.2.1 82 = .ok (.if_icmp .ge 55, 3) := by decide +kernel
theorem q_M_join_85 : decode m_M_join.2.1 85 = .ok (.aload_n 0, 1) := by decide +kernel
theorem q_M_join_86 : decode m_M_join.2.1 86 = .ok (.getfield 32, 3) := by decide +kernel
theorem q_M_join_89 : decode m_M_join.2.1 89 = .ok (.iload 5, 2) := by decide +kernel
theorem q_M_join_91 : decode m_M_join.2.1 91 = .ok (.iaload, 1) := by decide +kernel
theorem q_M_join_92 : decode m_M_join.2.1 92 = .ok (.iload_n 1, 1) := by decide +kernel
theorem q_M_join_93 : decode m_M_join.2.1 93 = .ok (.if_icmp .ne 14, 3) := by decide +kernel
theorem q_M_join_96 : decode m_M_join.2.1 96 = .ok (.aload_n 0, 1) := by decide +kernel
theorem q_M_join_97 : decode m_M_join.2.1 97 = .ok (.getfield 35, 3) := by decide +kernel
theorem q_M_join_100 : decode m_M_join.2.1 100 = .ok (.iload 5, 2) := by decide +kernel
theorem q_M_join_102 : decode m_M_join.2.1 102 = .ok (.iaload, 1) := by decide +kernel
theorem q_M_join_103 : decode m_M_join.2.1 103 = .ok (.iload_n 2, 1) := by decide +kernel
theorem q_M_join_104 : decode m_M_join.2.1 104 = .ok (.if_icmp .eq 25, 3) := by decide +kernel
theorem q_M_join_107 : decode m_M_join.2.1 107 = .ok (.aload_n 0, 1) := by decide +kernel
theorem q_M_join_108 : decode m_M_join.2.1 108 = .ok (.getfield 32, 3) := by decide +kernel
theorem q_M_join_111 : decode m_M_join.2.1 111 = .ok (.iload 5, 2) := by decide +kernel
theorem q_M_join_113 : decode m_M_join.2.1 113 = .ok (.iaload, 1) := by decide +kernel
theorem q_M_join_114 : decode m_M_join.2.1 114 = .ok (.iload_n 2, 1) := by decide +kernel
theorem q_M_join_115 : decode m_M_join.2.1 115 = .ok (.if_icmp .ne 16, 3) := by decide +kernel
theorem q_M_join_118 : decode m_M_join.2.1 118 = .ok (.aload_n 0, 1) := by decide +kernel
theorem q_M_join_119 : decode m_M_join.2.1 119 = .ok (.getfield 35, 3) := by decide +kernel
theorem q_M_join_122 : decode m_M_join.2.1 122 = .ok (.iload 5, 2) := by decide +kernel
theorem q_M_join_124 : decode m_M_join.2.1 124 = .ok (.iaload, 1) := by decide +kernel
theorem q_M_join_125 : decode m_M_join.2.1 125 = .ok (.iload_n 1, 1) := by decide +kernel
theorem q_M_join_126 : decode m_M_join.2.1 126 = .ok (.if_icmp .ne 5, 3) := by decide +kernel
theorem q_M_join_129 : decode m_M_join.2.1 129 = .ok (.iconst 0, 1) := by decide +kernel
theorem q_M_join_130 : decode m_M_join.2.1 130 = .ok (.ireturn, 1) := by decide +kernel
theorem q_M_join_131 : decode m_M_join.2.1 131 = .ok (.iinc 5 1, 3) := by decide +kernel
theorem q_M_join_134 : decode m_M_join.2.1 134 = .ok (.goto (-58), 3) := by decide +kernel
theorem q_M_join_137 : decode m_M_join.2.1 137 = .ok (.aload_n 0, 1) := by decide +kernel
theorem q_M_join_138 : decode m_M_join.2.1 138 = .ok (.getfield 32, 3) := by decide +kernel
theorem q_M_join_141 : decode m_M_join.2.1 141 = .ok (.aload_n 0, 1) := by decide +kernel
theorem q_M_join_142 : decode m_M_join.2.1 142 = .ok (.getfield 103, 3) := by decide +kernel
theorem q_M_join_145 : decode m_M_join.2.1 145 = .ok (.iload_n 1, 1) := by decide +kernel
theorem q_M_join_146 : decode m_M_join.2.1 146 = .ok (.iastore, 1) := by decide +kernel
theorem q_M_join_147 : decode m_M_join.2.1 147 = .ok (.aload_n 0, 1) := by decide +kernel
theorem q_M_join_148 : decode m_M_join.2.1 148 = .ok (.getfield 35, 3) := by decide +kernel
theorem q_M_join_151 : decode m_M_join.2.1 151 = .ok (.aload_n 0, 1) := by decide +kernel
theorem q_M_join_152 : decode m_M_join.2.1 152 = .ok (.getfield 103, 3) := by decide +kernel
theorem q_M_join_155 : decode m_M_join.2.1 155 = .ok (.iload_n 2, 1) := by decide +kernel
theorem q_M_join_156 : decode m_M_join.2.1 156 = .ok (.iastore, 1) := by decide +kernel
theorem q_M_join_157 : decode m_M_join.2.1 157 = .ok (.aload_n 0, 1) := by decide +kernel
theorem q_M_join_158 : decode m_M_join.2.1 158 = .ok (.getfield 38, 3) := by decide +kernel
theorem q_M_join_161 : decode m_M_join.2.1 161 = .ok (.aload_n 0, 1) := by decide +kernel
theorem q_M_join_162 : decode m_M_join.2.1 162 = .ok (.getfield 103, 3) := by decide +kernel
theorem q_M_join_165 : decode m_M_join.2.1 165 = .ok (.lload_n 3, 1) := by decide +kernel
theorem q_M_join_166 : decode m_M_join.2.1 166 = .ok (.lastore, 1) := by decide +kernel
theorem q_M_join_167 : decode m_M_join.2.1 167 = .ok (.aload_n 0, 1) := by decide +kernel
theorem q_M_join_168 : decode m_M_join.2.1 168 = .ok (.dup, 1) := by decide +kernel
theorem q_M_join_169 : decode m_M_join.2.1 169 = .ok (.getfield 103, 3) := by decide +kernel
theorem q_M_join_172 : decode m_M_join.2.1 172 = .ok (.iconst 1, 1) := by decide +kernel
theorem q_M_join_173 : decode m_M_join.2.1 173 = .ok (.iadd, 1) := by decide +kernel
theorem q_M_join_174 : decode m_M_join.2.1 174 = .ok (.putfield 103, 3) := by decide +kernel
theorem q_M_join_177 : decode m_M_join.2.1 177 = .ok (.aload_n 0, 1) := by decide +kernel
theorem q_M_join_178 : decode m_M_join.2.1 178 = .ok (.invokevirtual 79, 3) := by decide +kernel
theorem q_M_join_181 : decode m_M_join.2.1 181 = .ok (.iconst 1, 1) := by decide +kernel
theorem q_M_join_182 : decode m_M_join.2.1 182 = .ok (.ireturn, 1) := by decide +kernel
theorem q_M_district_0 : decode m_M_district.2.1 0 = .ok (.iload_n 1, 1) := by decide +kernel
theorem q_M_district_1 : decode m_M_district.2.1 1 = .ok (.i2l, 1) := by decide +kernel
theorem q_M_district_2 : decode m_M_district.2.1 2 = .ok (.lconst 0, 1) := by decide +kernel
theorem q_M_district_3 : decode m_M_district.2.1 3 = .ok (.aload_n 0, 1) := by decide +kernel
theorem q_M_district_4 : decode m_M_district.2.1 4 = .ok (.getfield 76, 3) := by decide +kernel
theorem q_M_district_7 : decode m_M_district.2.1 7 = .ok (.i2l, 1) := by decide +kernel
theorem q_M_district_8 : decode m_M_district.2.1 8 = .ok (.lconst 1, 1) := by decide +kernel
theorem q_M_district_9 : decode m_M_district.2.1 9 = .ok (.lsub, 1) := by decide +kernel
theorem q_M_district_10 : decode m_M_district.2.1 10 = .ok (.invokestatic 72, 3) := by decide +kernel
theorem q_M_district_13 : decode m_M_district.2.1 13 = .ok (.ifCond .eq 15, 3) := by decide +kernel
theorem q_M_district_16 : decode m_M_district.2.1 16 = .ok (.iload_n 2, 1) := by decide +kernel
theorem q_M_district_17 : decode m_M_district.2.1 17 = .ok (.i2l, 1) := by decide +kernel
theorem q_M_district_18 : decode m_M_district.2.1 18 = .ok (.lconst 0, 1) := by decide +kernel
theorem q_M_district_19 : decode m_M_district.2.1 19 = .ok (.ldc2_w 106, 3) := by decide +kernel
theorem q_M_district_22 : decode m_M_district.2.1 22 = .ok (.invokestatic 72, 3) := by decide +kernel
theorem q_M_district_25 : decode m_M_district.2.1 25 = .ok (.ifCond .ne 5, 3) := by decide +kernel
theorem q_M_district_28 : decode m_M_district.2.1 28 = .ok (.iconst 0, 1) := by decide +kernel
theorem q_M_district_29 : decode m_M_district.2.1 29 = .ok (.ireturn, 1) := by decide +kernel
theorem q_M_district_30 : decode m_M_district.2.1 30 = .ok (.aload_n 0, 1) := by decide +kernel
theorem q_M_district_31 : decode m_M_district.2.1 31 = .ok (.getfield 13, 3) := by decide +kernel
theorem q_M_district_34 : decode m_M_district.2.1 34 = .ok (.iload_n 1, 1) := by decide +kernel
theorem q_M_district_35 : decode m_M_district.2.1 35 = .ok (.iload_n 2, 1) := by decide +kernel
theorem q_M_district_36 : decode m_M_district.2.1 36 = .ok (.iastore, 1) := by decide +kernel
theorem q_M_district_37 : decode m_M_district.2.1 37 = .ok (.aload_n 0, 1) := by decide +kernel
theorem q_M_district_38 : decode m_M_district.2.1 38 = .ok (.invokevirtual 79, 3) := by decide +kernel
theorem q_M_district_41 : decode m_M_district.2.1 41 = .ok (.iconst 1, 1) := by decide +kernel
theorem q_M_district_42 : decode m_M_district.2.1 42 = .ok (.ireturn, 1) := by decide +kernel
theorem q_M_fair_0 : decode m_M_fair.2.1 0 = .ok (.lload_n 1, 1) := by decide +kernel
theorem q_M_fair_1 : decode m_M_fair.2.1 1 = .ok (.ldc2_w 108, 3) := by decide +kernel
theorem q_M_fair_4 : decode m_M_fair.2.1 4 = .ok (.lcmp, 1) := by decide +kernel
theorem q_M_fair_5 : decode m_M_fair.2.1 5 = .ok (.ifCond .le 5, 3) := by decide +kernel
theorem q_M_fair_8 : decode m_M_fair.2.1 8 = .ok (.iconst 0, 1) := by decide +kernel
theorem q_M_fair_9 : decode m_M_fair.2.1 9 = .ok (.ireturn, 1) := by decide +kernel
theorem q_M_fair_10 : decode m_M_fair.2.1 10 = .ok (.aload_n 0, 1) := by decide +kernel
theorem q_M_fair_11 : decode m_M_fair.2.1 11 = .ok (.lload_n 1, 1) := by decide +kernel
theorem q_M_fair_12 : decode m_M_fair.2.1 12 = .ok (.lconst 0, 1) := by decide +kernel
theorem q_M_fair_13 : decode m_M_fair.2.1 13 = .ok (.lcmp, 1) := by decide +kernel
theorem q_M_fair_14 : decode m_M_fair.2.1 14 = .ok (.ifCond .ge 9, 3) := by decide +kernel
theorem q_M_fair_17 : decode m_M_fair.2.1 17 = .ok (.ldc2_w 41, 3) := by decide +kernel
theorem q_M_fair_20 : decode m_M_fair.2.1 20 = .ok (.goto 4, 3) := by decide +kernel
theorem q_M_fair_23 : decode m_M_fair.2.1 23 = .ok (.lload_n 1, 1) := by decide +kernel
theorem q_M_fair_24 : decode m_M_fair.2.1 24 = .ok (.putfield 43, 3) := by decide +kernel
theorem q_M_fair_27 : decode m_M_fair.2.1 27 = .ok (.aload_n 0, 1) := by decide +kernel
theorem q_M_fair_28 : decode m_M_fair.2.1 28 = .ok (.invokevirtual 79, 3) := by decide +kernel
theorem q_M_fair_31 : decode m_M_fair.2.1 31 = .ok (.iconst 1, 1) := by decide +kernel
theorem q_M_fair_32 : decode m_M_fair.2.1 32 = .ok (.ireturn, 1) := by decide +kernel
theorem q_M_setAt_0 : decode m_M_setAt.2.1 0 = .ok (.iconst 0, 1) := by decide +kernel
theorem q_M_setAt_1 : decode m_M_setAt.2.1 1 = .ok (.istore_n 2, 1) := by decide +kernel
theorem q_M_setAt_2 : decode m_M_setAt.2.1 2 = .ok (.iconst 0, 1) := by decide +kernel
theorem q_M_setAt_3 : decode m_M_setAt.2.1 3 = .ok (.istore_n 3, 1) := by decide +kernel
theorem q_M_setAt_4 : decode m_M_setAt.2.1 4 = .ok (.iload_n 3, 1) := by decide +kernel
theorem q_M_setAt_5 : decode m_M_setAt.2.1 5 = .ok (.aload_n 0, 1) := by decide +kernel
theorem q_M_setAt_6 : decode m_M_setAt.2.1 6 = .ok (.getfield 84, 3) := by decide +kernel
theorem q_M_setAt_9 : decode m_M_setAt.2.1 9 = .ok (.if_icmp .ge 34, 3) := by decide +kernel
theorem q_M_setAt_12 : decode m_M_setAt.2.1 12 = .ok (.iload_n 2, 1) := by decide +kernel
theorem q_M_setAt_13 : decode m_M_setAt.2.1 13 = .ok (.iload_n 1, 1) := by decide +kernel
theorem q_M_setAt_14 : decode m_M_setAt.2.1 14 = .ok (.aload_n 0, 1) := by decide +kernel
theorem q_M_setAt_15 : decode m_M_setAt.2.1 15 = .ok (.getfield 84, 3) := by decide +kernel
theorem q_M_setAt_18 : decode m_M_setAt.2.1 18 = .ok (.iconst 1, 1) := by decide +kernel
theorem q_M_setAt_19 : decode m_M_setAt.2.1 19 = .ok (.isub, 1) := by decide +kernel
theorem q_M_setAt_20 : decode m_M_setAt.2.1 20 = .ok (.iload_n 3, 1) := by decide +kernel
theorem q_M_setAt_21 : decode m_M_setAt.2.1 21 = .ok (.isub, 1) := by decide +kernel
theorem q_M_setAt_22 : decode m_M_setAt.2.1 22 = .ok (.ishr, 1) := by decide +kernel
theorem q_M_setAt_23 : decode m_M_setAt.2.1 23 = .ok (.iconst 1, 1) := by decide +kernel
theorem q_M_setAt_24 : decode m_M_setAt.2.1 24 = .ok (.iand, 1) := by decide +kernel
theorem q_M_setAt_25 : decode m_M_setAt.2.1 25 = .ok (.ifCond .ne 9, 3) := by decide +kernel
theorem q_M_setAt_28 : decode m_M_setAt.2.1 28 = .ok (.iconst 1, 1) := by decide +kernel
theorem q_M_setAt_29 : decode m_M_setAt.2.1 29 = .ok (.iload_n 3, 1) := by decide +kernel
theorem q_M_setAt_30 : decode m_M_setAt.2.1 30 = .ok (.ishl, 1) := by decide +kernel
theorem q_M_setAt_31 : decode m_M_setAt.2.1 31 = .ok (.goto 4, 3) := by decide +kernel
theorem q_M_setAt_34 : decode m_M_setAt.2.1 34 = .ok (.iconst 0, 1) := by decide +kernel
theorem q_M_setAt_35 : decode m_M_setAt.2.1 35 = .ok (.ior, 1) := by decide +kernel
theorem q_M_setAt_36 : decode m_M_setAt.2.1 36 = .ok (.istore_n 2, 1) := by decide +kernel
theorem q_M_setAt_37 : decode m_M_setAt.2.1 37 = .ok (.iinc 3 1, 3) := by decide +kernel
theorem q_M_setAt_40 : decode m_M_setAt.2.1 40 = .ok (.goto (-36), 3) := by decide +kernel
theorem q_M_setAt_43 : decode m_M_setAt.2.1 43 = .ok (.iload_n 2, 1) := by decide +kernel
theorem q_M_setAt_44 : decode m_M_setAt.2.1 44 = .ok (.ireturn, 1) := by decide +kernel
theorem q_M_isPlan_0 : decode m_M_isPlan.2.1 0 = .ok (.iconst 0, 1) := by decide +kernel
theorem q_M_isPlan_1 : decode m_M_isPlan.2.1 1 = .ok (.istore_n 2, 1) := by decide +kernel
theorem q_M_isPlan_2 : decode m_M_isPlan.2.1 2 = .ok (.iconst 1, 1) := by decide +kernel
theorem q_M_isPlan_3 : decode m_M_isPlan.2.1 3 = .ok (.istore_n 3, 1) := by decide +kernel
theorem q_M_isPlan_4 : decode m_M_isPlan.2.1 4 = .ok (.iconst 0, 1) := by decide +kernel
theorem q_M_isPlan_5 : decode m_M_isPlan.2.1 5 = .ok (.istore 4, 2) := by decide +kernel
theorem q_M_isPlan_7 : decode m_M_isPlan.2.1 7 = .ok (.iload 4, 2) := by decide +kernel
theorem q_M_isPlan_9 : decode m_M_isPlan.2.1 9 = .ok (.aload_n 0, 1) := by decide +kernel
theorem q_M_isPlan_10 : decode m_M_isPlan.2.1 10 = .ok (.getfield 84, 3) := by decide +kernel
theorem q_M_isPlan_13 : decode m_M_isPlan.2.1 13 = .ok (.if_icmp .ge 54, 3) := by decide +kernel
theorem q_M_isPlan_16 : decode m_M_isPlan.2.1 16 = .ok (.iload_n 3, 1) := by decide +kernel
theorem q_M_isPlan_17 : decode m_M_isPlan.2.1 17 = .ok (.ifCond .eq 50, 3) := by decide +kernel
theorem q_M_isPlan_20 : decode m_M_isPlan.2.1 20 = .ok (.iload_n 1, 1) := by decide +kernel
theorem q_M_isPlan_21 : decode m_M_isPlan.2.1 21 = .ok (.iload 4, 2) := by decide +kernel
theorem q_M_isPlan_23 : decode m_M_isPlan.2.1 23 = .ok (.invokestatic 94, 3) := by decide +kernel
theorem q_M_isPlan_26 : decode m_M_isPlan.2.1 26 = .ok (.ifCond .eq 35, 3) := by decide +kernel
theorem q_M_isPlan_29 : decode m_M_isPlan.2.1 29 = .ok (.iload_n 2, 1) := by decide +kernel
theorem q_M_isPlan_30 : decode m_M_isPlan.2.1 30 = .ok (.aload_n 0, 1) := by decide +kernel
theorem q_M_isPlan_31 : decode m_M_isPlan.2.1 31 = .ok (.getfield 16, 3) := by decide +kernel
theorem q_M_isPlan_34 : decode m_M_isPlan.2.1 34 = .ok (.iload 4, 2) := by decide +kernel
theorem q_M_isPlan_36 : decode m_M_isPlan.2.1 36 = .ok (.iaload, 1) := by decide +kernel
theorem q_M_isPlan_37 : decode m_M_isPlan.2.1 37 = .ok (.ishr, 1) := by decide +kernel
theorem q_M_isPlan_38 : decode m_M_isPlan.2.1 38 = .ok (.iconst 1, 1) := by decide +kernel
theorem q_M_isPlan_39 : decode m_M_isPlan.2.1 39 = .ok (.iand, 1) := by decide +kernel
theorem q_M_isPlan_40 : decode m_M_isPlan.2.1 40 = .ok (.ifCond .ne 7, 3) := by decide +kernel
theorem q_M_isPlan_43 : decode m_M_isPlan.2.1 43 = .ok (.iconst 1, 1) := by decide +kernel
theorem q_M_isPlan_44 : decode m_M_isPlan.2.1 44 = .ok (.goto 4, 3) := by decide +kernel
theorem q_M_isPlan_47 : decode m_M_isPlan.2.1 47 = .ok (.iconst 0, 1) := by decide +kernel
theorem q_M_isPlan_48 : decode m_M_isPlan.2.1 48 = .ok (.istore_n 3, 1) := by decide +kernel
theorem q_M_isPlan_49 : decode m_M_isPlan.2.1 49 = .ok (.iload_n 2, 1) := by decide +kernel
theorem q_M_isPlan_50 : decode m_M_isPlan.2.1 50 = .ok (.iconst 1, 1) := by decide +kernel
theorem q_M_isPlan_51 : decode m_M_isPlan.2.1 51 = .ok (.aload_n 0, 1) := by decide +kernel
theorem q_M_isPlan_52 : decode m_M_isPlan.2.1 52 = .ok (.getfield 16, 3) := by decide +kernel
theorem q_M_isPlan_55 : decode m_M_isPlan.2.1 55 = .ok (.iload 4, 2) := by decide +kernel
theorem q_M_isPlan_57 : decode m_M_isPlan.2.1 57 = .ok (.iaload, 1) := by decide +kernel
theorem q_M_isPlan_58 : decode m_M_isPlan.2.1 58 = .ok (.ishl, 1) := by decide +kernel
theorem q_M_isPlan_59 : decode m_M_isPlan.2.1 59 = .ok (.ior, 1) := by decide +kernel
theorem q_M_isPlan_60 : decode m_M_isPlan.2.1 60 = .ok (.istore_n 2, 1) := by decide +kernel
theorem q_M_isPlan_61 : decode m_M_isPlan.2.1 61 = .ok (.iinc 4 1, 3) := by decide +kernel
theorem q_M_isPlan_64 : decode m_M_isPlan.2.1 64 = .ok (.goto (-57), 3) := by decide +kernel
theorem q_M_isPlan_67 : decode m_M_isPlan.2.1 67 = .ok (.iload_n 3, 1) := by decide +kernel
theorem q_M_isPlan_68 : decode m_M_isPlan.2.1 68 = .ok (.ireturn, 1) := by decide +kernel
theorem q_M_spentIn_0 : decode m_M_spentIn.2.1 0 = .ok (.lconst 0, 1) := by decide +kernel
theorem q_M_spentIn_1 : decode m_M_spentIn.2.1 1 = .ok (.lstore_n 3, 1) := by decide +kernel
theorem q_M_spentIn_2 : decode m_M_spentIn.2.1 2 = .ok (.iconst 0, 1) := by decide +kernel
theorem q_M_spentIn_3 : decode m_M_spentIn.2.1 3 = .ok (.istore 5, 2) := by decide +kernel
theorem q_M_spentIn_5 : decode m_M_spentIn.2.1 5 = .ok (.iload 5, 2) := by decide +kernel
theorem q_M_spentIn_7 : decode m_M_spentIn.2.1 7 = .ok (.aload_n 0, 1) := by decide +kernel
theorem q_M_spentIn_8 : decode m_M_spentIn.2.1 8 = .ok (.getfield 84, 3) := by decide +kernel
theorem q_M_spentIn_11 : decode m_M_spentIn.2.1 11 = .ok (.if_icmp .ge 43, 3) := by decide +kernel
theorem q_M_spentIn_14 : decode m_M_spentIn.2.1 14 = .ok (.lload_n 3, 1) := by decide +kernel
theorem q_M_spentIn_15 : decode m_M_spentIn.2.1 15 = .ok (.iload_n 1, 1) := by decide +kernel
theorem q_M_spentIn_16 : decode m_M_spentIn.2.1 16 = .ok (.iload 5, 2) := by decide +kernel
theorem q_M_spentIn_18 : decode m_M_spentIn.2.1 18 = .ok (.invokestatic 94, 3) := by decide +kernel
theorem q_M_spentIn_21 : decode m_M_spentIn.2.1 21 = .ok (.ifCond .eq 24, 3) := by decide +kernel
theorem q_M_spentIn_24 : decode m_M_spentIn.2.1 24 = .ok (.aload_n 0, 1) := by decide +kernel
theorem q_M_spentIn_25 : decode m_M_spentIn.2.1 25 = .ok (.getfield 19, 3) := by decide +kernel
theorem q_M_spentIn_28 : decode m_M_spentIn.2.1 28 = .ok (.iload 5, 2) := by decide +kernel
theorem q_M_spentIn_30 : decode m_M_spentIn.2.1 30 = .ok (.iaload, 1) := by decide +kernel
theorem q_M_spentIn_31 : decode m_M_spentIn.2.1 31 = .ok (.iload_n 2, 1) := by decide +kernel
theorem q_M_spentIn_32 : decode m_M_spentIn.2.1 32 = .ok (.if_icmp .ne 13, 3) := by decide +kernel
theorem q_M_spentIn_35 : decode m_M_spentIn.2.1 35 = .ok (.aload_n 0, 1) := by decide +kernel
theorem q_M_spentIn_36 : decode m_M_spentIn.2.1 36 = .ok (.getfield 22, 3) := by decide +kernel
theorem q_M_spentIn_39 : decode m_M_spentIn.2.1 39 = .ok (.iload 5, 2) := by decide +kernel
theorem q_M_spentIn_41 : decode m_M_spentIn.2.1 41 = .ok (.laload, 1) := by decide +kernel
theorem q_M_spentIn_42 : decode m_M_spentIn.2.1 42 = .ok (.goto 4, 3) := by decide +kernel
theorem q_M_spentIn_45 : decode m_M_spentIn.2.1 45 = .ok (.lconst 0, 1) := by decide +kernel
theorem q_M_spentIn_46 : decode m_M_spentIn.2.1 46 = .ok (.ladd, 1) := by decide +kernel
theorem q_M_spentIn_47 : decode m_M_spentIn.2.1 47 = .ok (.lstore_n 3, 1) := by decide +kernel
theorem q_M_spentIn_48 : decode m_M_spentIn.2.1 48 = .ok (.iinc 5 1, 3) := by decide +kernel
theorem q_M_spentIn_51 : decode m_M_spentIn.2.1 51 = .ok (.goto (-46), 3) := by decide +kernel
theorem q_M_spentIn_54 : decode m_M_spentIn.2.1 54 = .ok (.iconst 0, 1) := by decide +kernel
theorem q_M_spentIn_55 : decode m_M_spentIn.2.1 55 = .ok (.istore 5, 2) := by decide +kernel
theorem q_M_spentIn_57 : decode m_M_spentIn.2.1 57 = .ok (.iload 5, 2) := by decide +kernel
theorem q_M_spentIn_59 : decode m_M_spentIn.2.1 59 = .ok (.aload_n 0, 1) := by decide +kernel
theorem q_M_spentIn_60 : decode m_M_spentIn.2.1 60 = .ok (.getfield 103, 3) := by decide +kernel
theorem q_M_spentIn_63 : decode m_M_spentIn.2.1 63 = .ok (.if_icmp .ge 67, 3) := by decide +kernel
theorem q_M_spentIn_66 : decode m_M_spentIn.2.1 66 = .ok (.lload_n 3, 1) := by decide +kernel
theorem q_M_spentIn_67 : decode m_M_spentIn.2.1 67 = .ok (.iload_n 1, 1) := by decide +kernel
theorem q_M_spentIn_68 : decode m_M_spentIn.2.1 68 = .ok (.aload_n 0, 1) := by decide +kernel
theorem q_M_spentIn_69 : decode m_M_spentIn.2.1 69 = .ok (.getfield 32, 3) := by decide +kernel
theorem q_M_spentIn_72 : decode m_M_spentIn.2.1 72 = .ok (.iload 5, 2) := by decide +kernel
theorem q_M_spentIn_74 : decode m_M_spentIn.2.1 74 = .ok (.iaload, 1) := by decide +kernel
theorem q_M_spentIn_75 : decode m_M_spentIn.2.1 75 = .ok (.invokestatic 94, 3) := by decide +kernel
theorem q_M_spentIn_78 : decode m_M_spentIn.2.1 78 = .ok (.ifCond .eq 43, 3) := by decide +kernel
theorem q_M_spentIn_81 : decode m_M_spentIn.2.1 81 = .ok (.iload_n 1, 1) := by decide +kernel
theorem q_M_spentIn_82 : decode m_M_spentIn.2.1 82 = .ok (.aload_n 0, 1) := by decide +kernel
theorem q_M_spentIn_83 : decode m_M_spentIn.2.1 83 = .ok (.getfield 35, 3) := by decide +kernel
theorem q_M_spentIn_86 : decode m_M_spentIn.2.1 86 = .ok (.iload 5, 2) := by decide +kernel
theorem q_M_spentIn_88 : decode m_M_spentIn.2.1 88 = .ok (.iaload, 1) := by decide +kernel
theorem q_M_spentIn_89 : decode m_M_spentIn.2.1 89 = .ok (.invokestatic 94, 3) := by decide +kernel
theorem q_M_spentIn_92 : decode m_M_spentIn.2.1 92 = .ok (.ifCond .eq 29, 3) := by decide +kernel
theorem q_M_spentIn_95 : decode m_M_spentIn.2.1 95 = .ok (.aload_n 0, 1) := by decide +kernel
theorem q_M_spentIn_96 : decode m_M_spentIn.2.1 96 = .ok (.getfield 19, 3) := by decide +kernel
theorem q_M_spentIn_99 : decode m_M_spentIn.2.1 99 = .ok (.aload_n 0, 1) := by decide +kernel
theorem q_M_spentIn_100 : decode m_M_spentIn.2.1 100 = .ok (.getfield 32, 3) := by decide +kernel
theorem q_M_spentIn_103 : decode m_M_spentIn.2.1 103 = .ok (.iload 5, 2) := by decide +kernel
theorem q_M_spentIn_105 : decode m_M_spentIn.2.1 105 = .ok (.iaload, 1) := by decide +kernel
theorem q_M_spentIn_106 : decode m_M_spentIn.2.1 106 = .ok (.iaload, 1) := by decide +kernel
theorem q_M_spentIn_107 : decode m_M_spentIn.2.1 107 = .ok (.iload_n 2, 1) := by decide +kernel
theorem q_M_spentIn_108 : decode m_M_spentIn.2.1 108 = .ok (.if_icmp .ne 13, 3) := by decide +kernel
theorem q_M_spentIn_111 : decode m_M_spentIn.2.1 111 = .ok (.aload_n 0, 1) := by decide +kernel
theorem q_M_spentIn_112 : decode m_M_spentIn.2.1 112 = .ok (.getfield 38, 3) := by decide +kernel
theorem q_M_spentIn_115 : decode m_M_spentIn.2.1 115 = .ok (.iload 5, 2) := by decide +kernel
theorem q_M_spentIn_117 : decode m_M_spentIn.2.1 117 = .ok (.laload, 1) := by decide +kernel
theorem q_M_spentIn_118 : decode m_M_spentIn.2.1 118 = .ok (.goto 4, 3) := by decide +kernel
theorem q_M_spentIn_121 : decode m_M_spentIn.2.1 121 = .ok (.lconst 0, 1) := by decide +kernel
theorem q_M_spentIn_122 : decode m_M_spentIn.2.1 122 = .ok (.lsub, 1) := by decide +kernel
theorem q_M_spentIn_123 : decode m_M_spentIn.2.1 123 = .ok (.lstore_n 3, 1) := by decide +kernel
theorem q_M_spentIn_124 : decode m_M_spentIn.2.1 124 = .ok (.iinc 5 1, 3) := by decide +kernel
theorem q_M_spentIn_127 : decode m_M_spentIn.2.1 127 = .ok (.goto (-70), 3) := by decide +kernel
theorem q_M_spentIn_130 : decode m_M_spentIn.2.1 130 = .ok (.lload_n 3, 1) := by decide +kernel
theorem q_M_spentIn_131 : decode m_M_spentIn.2.1 131 = .ok (.lconst 0, 1) := by decide +kernel
theorem q_M_spentIn_132 : decode m_M_spentIn.2.1 132 = .ok (.lcmp, 1) := by decide +kernel
theorem q_M_spentIn_133 : decode m_M_spentIn.2.1 133 = .ok (.ifCond .ge 7, 3) := by decide +kernel
theorem q_M_spentIn_136 : decode m_M_spentIn.2.1 136 = .ok (.lconst 0, 1) := by decide +kernel
theorem q_M_spentIn_137 : decode m_M_spentIn.2.1 137 = .ok (.goto 4, 3) := by decide +kernel
theorem q_M_spentIn_140 : decode m_M_spentIn.2.1 140 = .ok (.lload_n 3, 1) := by decide +kernel
theorem q_M_spentIn_141 : decode m_M_spentIn.2.1 141 = .ok (.lreturn, 1) := by decide +kernel
theorem q_M_fits_0 : decode m_M_fits.2.1 0 = .ok (.aload_n 0, 1) := by decide +kernel
theorem q_M_fits_1 : decode m_M_fits.2.1 1 = .ok (.iload_n 1, 1) := by decide +kernel
theorem q_M_fits_2 : decode m_M_fits.2.1 2 = .ok (.invokevirtual 110, 3) := by decide +kernel
theorem q_M_fits_5 : decode m_M_fits.2.1 5 = .ok (.istore_n 2, 1) := by decide +kernel
theorem q_M_fits_6 : decode m_M_fits.2.1 6 = .ok (.iconst 0, 1) := by decide +kernel
theorem q_M_fits_7 : decode m_M_fits.2.1 7 = .ok (.istore_n 3, 1) := by decide +kernel
theorem q_M_fits_8 : decode m_M_fits.2.1 8 = .ok (.iload_n 3, 1) := by decide +kernel
theorem q_M_fits_9 : decode m_M_fits.2.1 9 = .ok (.aload_n 0, 1) := by decide +kernel
theorem q_M_fits_10 : decode m_M_fits.2.1 10 = .ok (.getfield 63, 3) := by decide +kernel
theorem q_M_fits_13 : decode m_M_fits.2.1 13 = .ok (.if_icmp .ge 35, 3) := by decide +kernel
theorem q_M_fits_16 : decode m_M_fits.2.1 16 = .ok (.iload_n 2, 1) := by decide +kernel
theorem q_M_fits_17 : decode m_M_fits.2.1 17 = .ok (.ifCond .eq 31, 3) := by decide +kernel
theorem q_M_fits_20 : decode m_M_fits.2.1 20 = .ok (.aload_n 0, 1) := by decide +kernel
theorem q_M_fits_21 : decode m_M_fits.2.1 21 = .ok (.iload_n 1, 1) := by decide +kernel
theorem q_M_fits_22 : decode m_M_fits.2.1 22 = .ok (.iload_n 3, 1) := by decide +kernel
theorem q_M_fits_23 : decode m_M_fits.2.1 23 = .ok (.invokevirtual 113, 3) := by decide +kernel
theorem q_M_fits_26 : decode m_M_fits.2.1 26 = .ok (.aload_n 0, 1) := by decide +kernel
theorem q_M_fits_27 : decode m_M_fits.2.1 27 = .ok (.getfield 29, 3) := by decide +kernel
theorem q_M_fits_30 : decode m_M_fits.2.1 30 = .ok (.iload_n 3, 1) := by decide +kernel
theorem q_M_fits_31 : decode m_M_fits.2.1 31 = .ok (.laload, 1) := by decide +kernel
theorem q_M_fits_32 : decode m_M_fits.2.1 32 = .ok (.lcmp, 1) := by decide +kernel
theorem q_M_fits_33 : decode m_M_fits.2.1 33 = .ok (.ifCond .gt 7, 3) := by decide +kernel
theorem q_M_fits_36 : decode m_M_fits.2.1 36 = .ok (.iconst 1, 1) := by decide +kernel
theorem q_M_fits_37 : decode m_M_fits.2.1 37 = .ok (.goto 4, 3) := by decide +kernel
theorem q_M_fits_40 : decode m_M_fits.2.1 40 = .ok (.iconst 0, 1) := by decide +kernel
theorem q_M_fits_41 : decode m_M_fits.2.1 41 = .ok (.istore_n 2, 1) := by decide +kernel
theorem q_M_fits_42 : decode m_M_fits.2.1 42 = .ok (.iinc 3 1, 3) := by decide +kernel
theorem q_M_fits_45 : decode m_M_fits.2.1 45 = .ok (.goto (-37), 3) := by decide +kernel
theorem q_M_fits_48 : decode m_M_fits.2.1 48 = .ok (.iload_n 2, 1) := by decide +kernel
theorem q_M_fits_49 : decode m_M_fits.2.1 49 = .ok (.ireturn, 1) := by decide +kernel
theorem q_M_isFair_0 : decode m_M_isFair.2.1 0 = .ok (.aload_n 0, 1) := by decide +kernel
theorem q_M_isFair_1 : decode m_M_isFair.2.1 1 = .ok (.getfield 43, 3) := by decide +kernel
theorem q_M_isFair_4 : decode m_M_isFair.2.1 4 = .ok (.lconst 0, 1) := by decide +kernel
theorem q_M_isFair_5 : decode m_M_isFair.2.1 5 = .ok (.lcmp, 1) := by decide +kernel
theorem q_M_isFair_6 : decode m_M_isFair.2.1 6 = .ok (.ifCond .ge 5, 3) := by decide +kernel
theorem q_M_isFair_9 : decode m_M_isFair.2.1 9 = .ok (.iconst 1, 1) := by decide +kernel
theorem q_M_isFair_10 : decode m_M_isFair.2.1 10 = .ok (.ireturn, 1) := by decide +kernel
theorem q_M_isFair_11 : decode m_M_isFair.2.1 11 = .ok (.iconst 0, 1) := by decide +kernel
theorem q_M_isFair_12 : decode m_M_isFair.2.1 12 = .ok (.istore_n 2, 1) := by decide +kernel
theorem q_M_isFair_13 : decode m_M_isFair.2.1 13 = .ok (.iconst 0, 1) := by decide +kernel
theorem q_M_isFair_14 : decode m_M_isFair.2.1 14 = .ok (.istore_n 3, 1) := by decide +kernel
theorem q_M_isFair_15 : decode m_M_isFair.2.1 15 = .ok (.iload_n 3, 1) := by decide +kernel
theorem q_M_isFair_16 : decode m_M_isFair.2.1 16 = .ok (.iconst 4, 1) := by decide +kernel
theorem q_M_isFair_17 : decode m_M_isFair.2.1 17 = .ok (.if_icmp .ge 16, 3) := by decide +kernel
theorem q_M_isFair_20 : decode m_M_isFair.2.1 20 = .ok (.aload_n 0, 1) := by decide +kernel
theorem q_M_isFair_21 : decode m_M_isFair.2.1 21 = .ok (.getfield 54, 3) := by decide +kernel
theorem q_M_isFair_24 : decode m_M_isFair.2.1 24 = .ok (.iload_n 3, 1) := by decide +kernel
theorem q_M_isFair_25 : decode m_M_isFair.2.1 25 = .ok (.lconst 0, 1) := by decide +kernel
theorem q_M_isFair_26 : decode m_M_isFair.2.1 26 = .ok (.lastore, 1) := by decide +kernel
theorem q_M_isFair_27 : decode m_M_isFair.2.1 27 = .ok (.iinc 3 1, 3) := by decide +kernel
theorem q_M_isFair_30 : decode m_M_isFair.2.1 30 = .ok (.goto (-15), 3) := by decide +kernel
theorem q_M_isFair_33 : decode m_M_isFair.2.1 33 = .ok (.iconst 0, 1) := by decide +kernel
theorem q_M_isFair_34 : decode m_M_isFair.2.1 34 = .ok (.istore_n 3, 1) := by decide +kernel
theorem q_M_isFair_35 : decode m_M_isFair.2.1 35 = .ok (.iload_n 3, 1) := by decide +kernel
theorem q_M_isFair_36 : decode m_M_isFair.2.1 36 = .ok (.aload_n 0, 1) := by decide +kernel
theorem q_M_isFair_37 : decode m_M_isFair.2.1 37 = .ok (.getfield 76, 3) := by decide +kernel
theorem q_M_isFair_40 : decode m_M_isFair.2.1 40 = .ok (.if_icmp .ge 20, 3) := by decide +kernel
theorem q_M_isFair_43 : decode m_M_isFair.2.1 43 = .ok (.iload_n 2, 1) := by decide +kernel
theorem q_M_isFair_44 : decode m_M_isFair.2.1 44 = .ok (.iconst 1, 1) := by decide +kernel
theorem q_M_isFair_45 : decode m_M_isFair.2.1 45 = .ok (.aload_n 0, 1) := by decide +kernel
theorem q_M_isFair_46 : decode m_M_isFair.2.1 46 = .ok (.getfield 13, 3) := by decide +kernel
theorem q_M_isFair_49 : decode m_M_isFair.2.1 49 = .ok (.iload_n 3, 1) := by decide +kernel
theorem q_M_isFair_50 : decode m_M_isFair.2.1 50 = .ok (.iaload, 1) := by decide +kernel
theorem q_M_isFair_51 : decode m_M_isFair.2.1 51 = .ok (.ishl, 1) := by decide +kernel
theorem q_M_isFair_52 : decode m_M_isFair.2.1 52 = .ok (.ior, 1) := by decide +kernel
theorem q_M_isFair_53 : decode m_M_isFair.2.1 53 = .ok (.istore_n 2, 1) := by decide +kernel
theorem q_M_isFair_54 : decode m_M_isFair.2.1 54 = .ok (.iinc 3 1, 3) := by decide +kernel
theorem q_M_isFair_57 : decode m_M_isFair.2.1 57 = .ok (.goto (-22), 3) := by decide +kernel
theorem q_M_isFair_60 : decode m_M_isFair.2.1 60 = .ok (.iconst 0, 1) := by decide +kernel
theorem q_M_isFair_61 : decode m_M_isFair.2.1 61 = .ok (.istore_n 3, 1) := by decide +kernel
theorem q_M_isFair_62 : decode m_M_isFair.2.1 62 = .ok (.iload_n 3, 1) := by decide +kernel
theorem q_M_isFair_63 : decode m_M_isFair.2.1 63 = .ok (.aload_n 0, 1) := by decide +kernel
theorem q_M_isFair_64 : decode m_M_isFair.2.1 64 = .ok (.getfield 84, 3) := by decide +kernel
theorem q_M_isFair_67 : decode m_M_isFair.2.1 67 = .ok (.if_icmp .ge 46, 3) := by decide +kernel
theorem q_M_isFair_70 : decode m_M_isFair.2.1 70 = .ok (.aload_n 0, 1) := by decide +kernel
theorem q_M_isFair_71 : decode m_M_isFair.2.1 71 = .ok (.getfield 54, 3) := by decide +kernel
theorem q_M_isFair_74 : decode m_M_isFair.2.1 74 = .ok (.aload_n 0, 1) := by decide +kernel
theorem q_M_isFair_75 : decode m_M_isFair.2.1 75 = .ok (.getfield 13, 3) := by decide +kernel
theorem q_M_isFair_78 : decode m_M_isFair.2.1 78 = .ok (.aload_n 0, 1) := by decide +kernel
theorem q_M_isFair_79 : decode m_M_isFair.2.1 79 = .ok (.getfield 16, 3) := by decide +kernel
theorem q_M_isFair_82 : decode m_M_isFair.2.1 82 = .ok (.iload_n 3, 1) := by decide +kernel
theorem q_M_isFair_83 : decode m_M_isFair.2.1 83 = .ok (.iaload, 1) := by decide +kernel
theorem q_M_isFair_84 : decode m_M_isFair.2.1 84 = .ok (.iaload, 1) := by decide +kernel
theorem q_M_isFair_85 : decode m_M_isFair.2.1 85 = .ok (.dup2, 1) := by decide +kernel
theorem q_M_isFair_86 : decode m_M_isFair.2.1 86 = .ok (.laload, 1) := by decide +kernel
theorem q_M_isFair_87 : decode m_M_isFair.2.1 87 = .ok (.iload_n 1, 1) := by decide +kernel
theorem q_M_isFair_88 : decode m_M_isFair.2.1 88 = .ok (.iload_n 3, 1) := by decide +kernel
theorem q_M_isFair_89 : decode m_M_isFair.2.1 89 = .ok (.invokestatic 94, 3) := by decide +kernel
theorem q_M_isFair_92 : decode m_M_isFair.2.1 92 = .ok (.ifCond .eq 12, 3) := by decide +kernel
theorem q_M_isFair_95 : decode m_M_isFair.2.1 95 = .ok (.aload_n 0, 1) := by decide +kernel
theorem q_M_isFair_96 : decode m_M_isFair.2.1 96 = .ok (.getfield 26, 3) := by decide +kernel
theorem q_M_isFair_99 : decode m_M_isFair.2.1 99 = .ok (.iload_n 3, 1) := by decide +kernel
theorem q_M_isFair_100 : decode m_M_isFair.2.1 100 = .ok (.laload, 1) := by decide +kernel
theorem q_M_isFair_101 : decode m_M_isFair.2.1 101 = .ok (.goto 4, 3) := by decide +kernel
theorem q_M_isFair_104 : decode m_M_isFair.2.1 104 = .ok (.lconst 0, 1) := by decide +kernel
theorem q_M_isFair_105 : decode m_M_isFair.2.1 105 = .ok (.ladd, 1) := by decide +kernel
theorem q_M_isFair_106 : decode m_M_isFair.2.1 106 = .ok (.lastore, 1) := by decide +kernel
theorem q_M_isFair_107 : decode m_M_isFair.2.1 107 = .ok (.iinc 3 1, 3) := by decide +kernel
theorem q_M_isFair_110 : decode m_M_isFair.2.1 110 = .ok (.goto (-48), 3) := by decide +kernel
theorem q_M_isFair_113 : decode m_M_isFair.2.1 113 = .ok (.ldc2_w 41, 3) := by decide +kernel
theorem q_M_isFair_116 : decode m_M_isFair.2.1 116 = .ok (.lstore_n 3, 1) := by decide +kernel
theorem q_M_isFair_117 : decode m_M_isFair.2.1 117 = .ok (.lconst 0, 1) := by decide +kernel
theorem q_M_isFair_118 : decode m_M_isFair.2.1 118 = .ok (.lstore 5, 2) := by decide +kernel
theorem q_M_isFair_120 : decode m_M_isFair.2.1 120 = .ok (.iconst 0, 1) := by decide +kernel
theorem q_M_isFair_121 : decode m_M_isFair.2.1 121 = .ok (.istore 7, 2) := by decide +kernel
theorem q_M_isFair_123 : decode m_M_isFair.2.1 123 = .ok (.iload 7, 2) := by decide +kernel
theorem q_M_isFair_125 : decode m_M_isFair.2.1 125 = .ok (.iconst 4, 1) := by decide +kernel
theorem q_M_isFair_126 : decode m_M_isFair.2.1 126 = .ok (.if_icmp .ge 75, 3) := by decide +kernel
theorem q_M_isFair_129 : decode m_M_isFair.2.1 129 = .ok (.iload_n 2, 1) := by decide +kernel
theorem q_M_isFair_130 : decode m_M_isFair.2.1 130 = .ok (.iload 7, 2) := by decide +kernel
theorem q_M_isFair_132 : decode m_M_isFair.2.1 132 = .ok (.invokestatic 94, 3) := by decide +kernel
theorem q_M_isFair_135 : decode m_M_isFair.2.1 135 = .ok (.ifCond .eq 60, 3) := by decide +kernel
theorem q_M_isFair_138 : decode m_M_isFair.2.1 138 = .ok (.lload_n 3, 1) := by decide +kernel
theorem q_M_isFair_139 : decode m_M_isFair.2.1 139 = .ok (.lconst 0, 1) := by decide +kernel
theorem q_M_isFair_140 : decode m_M_isFair.2.1 140 = .ok (.lcmp, 1) := by decide +kernel
theorem q_M_isFair_141 : decode m_M_isFair.2.1 141 = .ok (.ifCond .lt 15, 3) := by decide +kernel
theorem q_M_isFair_144 : decode m_M_isFair.2.1 144 = .ok (.aload_n 0, 1) := by decide +kernel
theorem q_M_isFair_145 : decode m_M_isFair.2.1 145 = .ok (.getfield 54, 3) := by decide +kernel
theorem q_M_isFair_148 : decode m_M_isFair.2.1 148 = .ok (.iload 7, 2) := by decide +kernel
theorem q_M_isFair_150 : decode m_M_isFair.2.1 150 = .ok (.laload, 1) := by decide +kernel
theorem q_M_isFair_151 : decode m_M_isFair.2.1 151 = .ok (.lload_n 3, 1) := by decide +kernel
theorem q_M_isFair_152 : decode m_M_isFair.2.1 152 = .ok (.lcmp, 1) := by decide +kernel
theorem q_M_isFair_153 : decode m_M_isFair.2.1 153 = .ok (.ifCond .ge 13, 3) := by decide +kernel
theorem q_M_isFair_156 : decode m_M_isFair.2.1 156 = .ok (.aload_n 0, 1) := by decide +kernel
theorem q_M_isFair_157 : decode m_M_isFair.2.1 157 = .ok (.getfield 54, 3) := by decide +kernel
theorem q_M_isFair_160 : decode m_M_isFair.2.1 160 = .ok (.iload 7, 2) := by decide +kernel
theorem q_M_isFair_162 : decode m_M_isFair.2.1 162 = .ok (.laload, 1) := by decide +kernel
theorem q_M_isFair_163 : decode m_M_isFair.2.1 163 = .ok (.goto 4, 3) := by decide +kernel
theorem q_M_isFair_166 : decode m_M_isFair.2.1 166 = .ok (.lload_n 3, 1) := by decide +kernel
theorem q_M_isFair_167 : decode m_M_isFair.2.1 167 = .ok (.lstore_n 3, 1) := by decide +kernel
theorem q_M_isFair_168 : decode m_M_isFair.2.1 168 = .ok (.aload_n 0, 1) := by decide +kernel
theorem q_M_isFair_169 : decode m_M_isFair.2.1 169 = .ok (.getfield 54, 3) := by decide +kernel
theorem q_M_isFair_172 : decode m_M_isFair.2.1 172 = .ok (.iload 7, 2) := by decide +kernel
theorem q_M_isFair_174 : decode m_M_isFair.2.1 174 = .ok (.laload, 1) := by decide +kernel
theorem q_M_isFair_175 : decode m_M_isFair.2.1 175 = .ok (.lload 5, 2) := by decide +kernel
theorem q_M_isFair_177 : decode m_M_isFair.2.1 177 = .ok (.lcmp, 1) := by decide +kernel
theorem q_M_isFair_178 : decode m_M_isFair.2.1 178 = .ok (.ifCond .le 13, 3) := by decide +kernel
theorem q_M_isFair_181 : decode m_M_isFair.2.1 181 = .ok (.aload_n 0, 1) := by decide +kernel
theorem q_M_isFair_182 : decode m_M_isFair.2.1 182 = .ok (.getfield 54, 3) := by decide +kernel
theorem q_M_isFair_185 : decode m_M_isFair.2.1 185 = .ok (.iload 7, 2) := by decide +kernel
theorem q_M_isFair_187 : decode m_M_isFair.2.1 187 = .ok (.laload, 1) := by decide +kernel
theorem q_M_isFair_188 : decode m_M_isFair.2.1 188 = .ok (.goto 5, 3) := by decide +kernel
theorem q_M_isFair_191 : decode m_M_isFair.2.1 191 = .ok (.lload 5, 2) := by decide +kernel
theorem q_M_isFair_193 : decode m_M_isFair.2.1 193 = .ok (.lstore 5, 2) := by decide +kernel
theorem q_M_isFair_195 : decode m_M_isFair.2.1 195 = .ok (.iinc 7 1, 3) := by decide +kernel
theorem q_M_isFair_198 : decode m_M_isFair.2.1 198 = .ok (.goto (-75), 3) := by decide +kernel
theorem q_M_isFair_201 : decode m_M_isFair.2.1 201 = .ok (.lload_n 3, 1) := by decide +kernel
theorem q_M_isFair_202 : decode m_M_isFair.2.1 202 = .ok (.lconst 0, 1) := by decide +kernel
theorem q_M_isFair_203 : decode m_M_isFair.2.1 203 = .ok (.lcmp, 1) := by decide +kernel
theorem q_M_isFair_204 : decode m_M_isFair.2.1 204 = .ok (.ifCond .lt 15, 3) := by decide +kernel
theorem q_M_isFair_207 : decode m_M_isFair.2.1 207 = .ok (.lload 5, 2) := by decide +kernel
theorem q_M_isFair_209 : decode m_M_isFair.2.1 209 = .ok (.lload_n 3, 1) := by decide +kernel
theorem q_M_isFair_210 : decode m_M_isFair.2.1 210 = .ok (.lsub, 1) := by decide +kernel
theorem q_M_isFair_211 : decode m_M_isFair.2.1 211 = .ok (.aload_n 0, 1) := by decide +kernel
theorem q_M_isFair_212 : decode m_M_isFair.2.1 212 = .ok (.getfield 43, 3) := by decide +kernel
theorem q_M_isFair_215 : decode m_M_isFair.2.1 215 = .ok (.lcmp, 1) := by decide +kernel
theorem q_M_isFair_216 : decode m_M_isFair.2.1 216 = .ok (.ifCond .gt 7, 3) := by decide +kernel
theorem q_M_isFair_219 : decode m_M_isFair.2.1 219 = .ok (.iconst 1, 1) := by decide +kernel
theorem q_M_isFair_220 : decode m_M_isFair.2.1 220 = .ok (.goto 4, 3) := by decide +kernel
theorem q_M_isFair_223 : decode m_M_isFair.2.1 223 = .ok (.iconst 0, 1) := by decide +kernel
theorem q_M_isFair_224 : decode m_M_isFair.2.1 224 = .ok (.ireturn, 1) := by decide +kernel
theorem q_M_holdsWith_0 : decode m_M_holdsWith.2.1 0 = .ok (.iload_n 1, 1) := by decide +kernel
theorem q_M_holdsWith_1 : decode m_M_holdsWith.2.1 1 = .ok (.iload_n 2, 1) := by decide +kernel
theorem q_M_holdsWith_2 : decode m_M_holdsWith.2.1 2 = .ok (.iand, 1) := by decide +kernel
theorem q_M_holdsWith_3 : decode m_M_holdsWith.2.1 3 = .ok (.iload_n 2, 1) := by decide +kernel
theorem q_M_holdsWith_4 : decode m_M_holdsWith.2.1 4 = .ok (.if_icmp .ne 31, 3) := by decide +kernel
theorem q_M_holdsWith_7 : decode m_M_holdsWith.2.1 7 = .ok (.aload_n 0, 1) := by decide +kernel
theorem q_M_holdsWith_8 : decode m_M_holdsWith.2.1 8 = .ok (.iload_n 1, 1) := by decide +kernel
theorem q_M_holdsWith_9 : decode m_M_holdsWith.2.1 9 = .ok (.invokevirtual 110, 3) := by decide +kernel
theorem q_M_holdsWith_12 : decode m_M_holdsWith.2.1 12 = .ok (.ifCond .eq 23, 3) := by decide +kernel
theorem q_M_holdsWith_15 : decode m_M_holdsWith.2.1 15 = .ok (.aload_n 0, 1) := by decide +kernel
theorem q_M_holdsWith_16 : decode m_M_holdsWith.2.1 16 = .ok (.iload_n 1, 1) := by decide +kernel
theorem q_M_holdsWith_17 : decode m_M_holdsWith.2.1 17 = .ok (.invokevirtual 117, 3) := by decide +kernel
theorem q_M_holdsWith_20 : decode m_M_holdsWith.2.1 20 = .ok (.ifCond .eq 15, 3) := by decide +kernel
theorem q_M_holdsWith_23 : decode m_M_holdsWith.2.1 23 = .ok (.aload_n 0, 1) := by decide +kernel
theorem q_M_holdsWith_24 : decode m_M_holdsWith.2.1 24 = .ok (.iload_n 1, 1) := by decide +kernel
theorem q_M_holdsWith_25 : decode m_M_holdsWith.2.1 25 = .ok (.invokevirtual 120, 3) := by decide +kernel
theorem q_M_holdsWith_28 : decode m_M_holdsWith.2.1 28 = .ok (.ifCond .eq 7, 3) := by decide +kernel
theorem q_M_holdsWith_31 : decode m_M_holdsWith.2.1 31 = .ok (.iconst 1, 1) := by decide +kernel
theorem q_M_holdsWith_32 : decode m_M_holdsWith.2.1 32 = .ok (.goto 4, 3) := by decide +kernel
theorem q_M_holdsWith_35 : decode m_M_holdsWith.2.1 35 = .ok (.iconst 0, 1) := by decide +kernel
theorem q_M_holdsWith_36 : decode m_M_holdsWith.2.1 36 = .ok (.ireturn, 1) := by decide +kernel
theorem q_M_worthOf_0 : decode m_M_worthOf.2.1 0 = .ok (.lconst 0, 1) := by decide +kernel
theorem q_M_worthOf_1 : decode m_M_worthOf.2.1 1 = .ok (.lstore_n 2, 1) := by decide +kernel
theorem q_M_worthOf_2 : decode m_M_worthOf.2.1 2 = .ok (.iconst 0, 1) := by decide +kernel
theorem q_M_worthOf_3 : decode m_M_worthOf.2.1 3 = .ok (.istore 4, 2) := by decide +kernel
theorem q_M_worthOf_5 : decode m_M_worthOf.2.1 5 = .ok (.iload 4, 2) := by decide +kernel
theorem q_M_worthOf_7 : decode m_M_worthOf.2.1 7 = .ok (.aload_n 0, 1) := by decide +kernel
theorem q_M_worthOf_8 : decode m_M_worthOf.2.1 8 = .ok (.getfield 84, 3) := by decide +kernel
theorem q_M_worthOf_11 : decode m_M_worthOf.2.1 11 = .ok (.if_icmp .ge 32, 3) := by decide +kernel
theorem q_M_worthOf_14 : decode m_M_worthOf.2.1 14 = .ok (.lload_n 2, 1) := by decide +kernel
theorem q_M_worthOf_15 : decode m_M_worthOf.2.1 15 = .ok (.iload_n 1, 1) := by decide +kernel
theorem q_M_worthOf_16 : decode m_M_worthOf.2.1 16 = .ok (.iload 4, 2) := by decide +kernel
theorem q_M_worthOf_18 : decode m_M_worthOf.2.1 18 = .ok (.invokestatic 94, 3) := by decide +kernel
theorem q_M_worthOf_21 : decode m_M_worthOf.2.1 21 = .ok (.ifCond .eq 13, 3) := by decide +kernel
theorem q_M_worthOf_24 : decode m_M_worthOf.2.1 24 = .ok (.aload_n 0, 1) := by decide +kernel
theorem q_M_worthOf_25 : decode m_M_worthOf.2.1 25 = .ok (.getfield 26, 3) := by decide +kernel
theorem q_M_worthOf_28 : decode m_M_worthOf.2.1 28 = .ok (.iload 4, 2) := by decide +kernel
theorem q_M_worthOf_30 : decode m_M_worthOf.2.1 30 = .ok (.laload, 1) := by decide +kernel
theorem q_M_worthOf_31 : decode m_M_worthOf.2.1 31 = .ok (.goto 4, 3) := by decide +kernel
theorem q_M_worthOf_34 : decode m_M_worthOf.2.1 34 = .ok (.lconst 0, 1) := by decide +kernel
theorem q_M_worthOf_35 : decode m_M_worthOf.2.1 35 = .ok (.ladd, 1) := by decide +kernel
theorem q_M_worthOf_36 : decode m_M_worthOf.2.1 36 = .ok (.lstore_n 2, 1) := by decide +kernel
theorem q_M_worthOf_37 : decode m_M_worthOf.2.1 37 = .ok (.iinc 4 1, 3) := by decide +kernel
theorem q_M_worthOf_40 : decode m_M_worthOf.2.1 40 = .ok (.goto (-35), 3) := by decide +kernel
theorem q_M_worthOf_43 : decode m_M_worthOf.2.1 43 = .ok (.lload_n 2, 1) := by decide +kernel
theorem q_M_worthOf_44 : decode m_M_worthOf.2.1 44 = .ok (.lreturn, 1) := by decide +kernel
theorem q_M_yearsOf_0 : decode m_M_yearsOf.2.1 0 = .ok (.iconst 0, 1) := by decide +kernel
theorem q_M_yearsOf_1 : decode m_M_yearsOf.2.1 1 = .ok (.istore_n 2, 1) := by decide +kernel
theorem q_M_yearsOf_2 : decode m_M_yearsOf.2.1 2 = .ok (.iconst 0, 1) := by decide +kernel
theorem q_M_yearsOf_3 : decode m_M_yearsOf.2.1 3 = .ok (.istore_n 3, 1) := by decide +kernel
theorem q_M_yearsOf_4 : decode m_M_yearsOf.2.1 4 = .ok (.iload_n 3, 1) := by decide +kernel
theorem q_M_yearsOf_5 : decode m_M_yearsOf.2.1 5 = .ok (.aload_n 0, 1) := by decide +kernel
theorem q_M_yearsOf_6 : decode m_M_yearsOf.2.1 6 = .ok (.getfield 84, 3) := by decide +kernel
theorem q_M_yearsOf_9 : decode m_M_yearsOf.2.1 9 = .ok (.if_icmp .ge 30, 3) := by decide +kernel
