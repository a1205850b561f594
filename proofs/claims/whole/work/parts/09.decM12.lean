theorem q_M_rank_96 : decode m_M_rank.2.1 96 = .ok (.getfield 7, 3) := by decide +kernel
theorem q_M_rank_99 : decode m_M_rank.2.1 99 = .ok (.iload_n 2, 1) := by decide +kernel
theorem q_M_rank_100 : decode m_M_rank.2.1 100 = .ok (.iaload, 1) := by decide +kernel
theorem q_M_rank_101 : decode m_M_rank.2.1 101 = .ok (.if_icmp .ne 13, 3) := by decide +kernel
theorem q_M_rank_104 : decode m_M_rank.2.1 104 = .ok (.iload 4, 2) := by decide +kernel
theorem q_M_rank_106 : decode m_M_rank.2.1 106 = .ok (.iload_n 2, 1) := by decide +kernel
theorem q_M_rank_107 : decode m_M_rank.2.1 107 = .ok (.if_icmp .ge 7, 3) := by decide +kernel
theorem q_M_rank_110 : decode m_M_rank.2.1 110 = .ok (.iconst 1, 1) := by decide +kernel
theorem q_M_rank_111 : decode m_M_rank.2.1 111 = .ok (.goto 4, 3) := by decide +kernel
theorem q_M_rank_114 : decode m_M_rank.2.1 114 = .ok (.iconst 0, 1) := by decide +kernel
theorem q_M_rank_115 : decode m_M_rank.2.1 115 = .ok (.iadd, 1) := by decide +kernel
theorem q_M_rank_116 : decode m_M_rank.2.1 116 = .ok (.istore_n 3, 1) := by decide +kernel
theorem q_M_rank_117 : decode m_M_rank.2.1 117 = .ok (.iinc 4 1, 3) := by decide +kernel
theorem q_M_rank_120 : decode m_M_rank.2.1 120 = .ok (.goto (-91), 3) := by decide +kernel
theorem q_M_rank_123 : decode m_M_rank.2.1 123 = .ok (.aload_n 0, 1) := by decide +kernel
theorem q_M_rank_124 : decode m_M_rank.2.1 124 = .ok (.getfield 60, 3) := by decide +kernel
theorem q_M_rank_127 : decode m_M_rank.2.1 127 = .ok (.iload_n 3, 1) := by decide +kernel
theorem q_M_rank_128 : decode m_M_rank.2.1 128 = .ok (.iload_n 2, 1) := by decide +kernel
theorem q_M_rank_129 : decode m_M_rank.2.1 129 = .ok (.iastore, 1) := by decide +kernel
theorem q_M_rank_130 : decode m_M_rank.2.1 130 = .ok (.iinc 2 1, 3) := by decide +kernel
theorem q_M_rank_133 : decode m_M_rank.2.1 133 = .ok (.goto (-117), 3) := by decide +kernel
theorem q_M_rank_136 : decode m_M_rank.2.1 136 = .ok (.aload_n 0, 1) := by decide +kernel
theorem q_M_rank_137 : decode m_M_rank.2.1 137 = .ok (.getfield 60, 3) := by decide +kernel
theorem q_M_rank_140 : decode m_M_rank.2.1 140 = .ok (.iload_n 1, 1) := by decide +kernel
theorem q_M_rank_141 : decode m_M_rank.2.1 141 = .ok (.iaload, 1) := by decide +kernel
theorem q_M_rank_142 : decode m_M_rank.2.1 142 = .ok (.ireturn, 1) := by decide +kernel
theorem q_M_share_0 : decode m_M_share.2.1 0 = .ok (.iload_n 1, 1) := by decide +kernel
theorem q_M_share_1 : decode m_M_share.2.1 1 = .ok (.i2l, 1) := by decide +kernel
theorem q_M_share_2 : decode m_M_share.2.1 2 = .ok (.lconst 0, 1) := by decide +kernel
theorem q_M_share_3 : decode m_M_share.2.1 3 = .ok (.ldc2_w 106, 3) := by decide +kernel
theorem q_M_share_6 : decode m_M_share.2.1 6 = .ok (.invokestatic 72, 3) := by decide +kernel
theorem q_M_share_9 : decode m_M_share.2.1 9 = .ok (.ifCond .eq 20, 3) := by decide +kernel
theorem q_M_share_12 : decode m_M_share.2.1 12 = .ok (.iload_n 2, 1) := by decide +kernel
theorem q_M_share_13 : decode m_M_share.2.1 13 = .ok (.ifCond .eq 8, 3) := by decide +kernel
theorem q_M_share_16 : decode m_M_share.2.1 16 = .ok (.iload_n 2, 1) := by decide +kernel
theorem q_M_share_17 : decode m_M_share.2.1 17 = .ok (.iconst 1, 1) := by decide +kernel
theorem q_M_share_18 : decode m_M_share.2.1 18 = .ok (.if_icmp .ne 11, 3) := by decide +kernel
theorem q_M_share_21 : decode m_M_share.2.1 21 = .ok (.aload_n 0, 1) := by decide +kernel
theorem q_M_share_22 : decode m_M_share.2.1 22 = .ok (.getfield 47, 3) := by decide +kernel
theorem q_M_share_25 : decode m_M_share.2.1 25 = .ok (.iconst (-1), 1) := by decide +kernel
theorem q_M_share_26 : decode m_M_share.2.1 26 = .ok (.if_icmp .ne 7, 3) := by decide +kernel
theorem q_M_share_29 : decode m_M_share.2.1 29 = .ok (.ldc2_w 41, 3) := by decide +kernel
theorem q_M_share_32 : decode m_M_share.2.1 32 = .ok (.lreturn, 1) := by decide +kernel
theorem q_M_share_33 : decode m_M_share.2.1 33 = .ok (.lconst 0, 1) := by decide +kernel
theorem q_M_share_34 : decode m_M_share.2.1 34 = .ok (.lstore_n 3, 1) := by decide +kernel
theorem q_M_share_35 : decode m_M_share.2.1 35 = .ok (.iconst 0, 1) := by decide +kernel
theorem q_M_share_36 : decode m_M_share.2.1 36 = .ok (.istore 5, 2) := by decide +kernel
theorem q_M_share_38 : decode m_M_share.2.1 38 = .ok (.iload 5, 2) := by decide +kernel
theorem q_M_share_40 : decode m_M_share.2.1 40 = .ok (.aload_n 0, 1) := by decide +kernel
theorem q_M_share_41 : decode m_M_share.2.1 41 = .ok (.getfield 84, 3) := by decide +kernel
theorem q_M_share_44 : decode m_M_share.2.1 44 = .ok (.if_icmp .ge 51, 3) := by decide +kernel
theorem q_M_share_47 : decode m_M_share.2.1 47 = .ok (.lload_n 3, 1) := by decide +kernel
theorem q_M_share_48 : decode m_M_share.2.1 48 = .ok (.aload_n 0, 1) := by decide +kernel
theorem q_M_share_49 : decode m_M_share.2.1 49 = .ok (.getfield 47, 3) := by decide +kernel
theorem q_M_share_52 : decode m_M_share.2.1 52 = .ok (.iload 5, 2) := by decide +kernel
theorem q_M_share_54 : decode m_M_share.2.1 54 = .ok (.invokestatic 94, 3) := by decide +kernel
theorem q_M_share_57 : decode m_M_share.2.1 57 = .ok (.ifCond .eq 29, 3) := by decide +kernel
theorem q_M_share_60 : decode m_M_share.2.1 60 = .ok (.aload_n 0, 1) := by decide +kernel
theorem q_M_share_61 : decode m_M_share.2.1 61 = .ok (.getfield 13, 3) := by decide +kernel
theorem q_M_share_64 : decode m_M_share.2.1 64 = .ok (.aload_n 0, 1) := by decide +kernel
theorem q_M_share_65 : decode m_M_share.2.1 65 = .ok (.getfield 16, 3) := by decide +kernel
theorem q_M_share_68 : decode m_M_share.2.1 68 = .ok (.iload 5, 2) := by decide +kernel
theorem q_M_share_70 : decode m_M_share.2.1 70 = .ok (.iaload, 1) := by decide +kernel
theorem q_M_share_71 : decode m_M_share.2.1 71 = .ok (.iaload, 1) := by decide +kernel
theorem q_M_share_72 : decode m_M_share.2.1 72 = .ok (.iload_n 1, 1) := by decide +kernel
theorem q_M_share_73 : decode m_M_share.2.1 73 = .ok (.if_icmp .ne 13, 3) := by decide +kernel
theorem q_M_share_76 : decode m_M_share.2.1 76 = .ok (.aload_n 0, 1) := by decide +kernel
theorem q_M_share_77 : decode m_M_share.2.1 77 = .ok (.getfield 26, 3) := by decide +kernel
theorem q_M_share_80 : decode m_M_share.2.1 80 = .ok (.iload 5, 2) := by decide +kernel
theorem q_M_share_82 : decode m_M_share.2.1 82 = .ok (.laload, 1) := by decide +kernel
theorem q_M_share_83 : decode m_M_share.2.1 83 = .ok (.goto 4, 3) := by decide +kernel
theorem q_M_share_86 : decode m_M_share.2.1 86 = .ok (.lconst 0, 1) := by decide +kernel
theorem q_M_share_87 : decode m_M_share.2.1 87 = .ok (.ladd, 1) := by decide +kernel
theorem q_M_share_88 : decode m_M_share.2.1 88 = .ok (.lstore_n 3, 1) := by decide +kernel
theorem q_M_share_89 : decode m_M_share.2.1 89 = .ok (.iinc 5 1, 3) := by decide +kernel
theorem q_M_share_92 : decode m_M_share.2.1 92 = .ok (.goto (-54), 3) := by decide +kernel
theorem q_M_share_95 : decode m_M_share.2.1 95 = .ok (.aload_n 0, 1) := by decide +kernel
theorem q_M_share_96 : decode m_M_share.2.1 96 = .ok (.aload_n 0, 1) := by decide +kernel
theorem q_M_share_97 : decode m_M_share.2.1 97 = .ok (.getfield 47, 3) := by decide +kernel
theorem q_M_share_100 : decode m_M_share.2.1 100 = .ok (.invokevirtual 123, 3) := by decide +kernel
theorem q_M_share_103 : decode m_M_share.2.1 103 = .ok (.lstore 5, 2) := by decide +kernel
theorem q_M_share_105 : decode m_M_share.2.1 105 = .ok (.lload 5, 2) := by decide +kernel
theorem q_M_share_107 : decode m_M_share.2.1 107 = .ok (.lconst 0, 1) := by decide +kernel
theorem q_M_share_108 : decode m_M_share.2.1 108 = .ok (.lcmp, 1) := by decide +kernel
theorem q_M_share_109 : decode m_M_share.2.1 109 = .ok (.ifCond .eq 9, 3) := by decide +kernel
theorem q_M_share_112 : decode m_M_share.2.1 112 = .ok (.lload_n 3, 1) := by decide +kernel
theorem q_M_share_113 : decode m_M_share.2.1 113 = .ok (.lconst 0, 1) := by decide +kernel
theorem q_M_share_114 : decode m_M_share.2.1 114 = .ok (.lcmp, 1) := by decide +kernel
theorem q_M_share_115 : decode m_M_share.2.1 115 = .ok (.ifCond .ne 6, 3) := by decide +kernel
theorem q_M_share_118 : decode m_M_share.2.1 118 = .ok (.iload_n 2, 1) := by decide +kernel
theorem q_M_share_119 : decode m_M_share.2.1 119 = .ok (.i2l, 1) := by decide +kernel
theorem q_M_share_120 : decode m_M_share.2.1 120 = .ok (.lreturn, 1) := by decide +kernel
theorem q_M_share_121 : decode m_M_share.2.1 121 = .ok (.lload 5, 2) := by decide +kernel
theorem q_M_share_123 : decode m_M_share.2.1 123 = .ok (.lstore 7, 2) := by decide +kernel
theorem q_M_share_125 : decode m_M_share.2.1 125 = .ok (.lload_n 3, 1) := by decide +kernel
theorem q_M_share_126 : decode m_M_share.2.1 126 = .ok (.lstore 9, 2) := by decide +kernel
theorem q_M_share_128 : decode m_M_share.2.1 128 = .ok (.lload 9, 2) := by decide +kernel
theorem q_M_share_130 : decode m_M_share.2.1 130 = .ok (.lconst 0, 1) := by decide +kernel
theorem q_M_share_131 : decode m_M_share.2.1 131 = .ok (.lcmp, 1) := by decide +kernel
theorem q_M_share_132 : decode m_M_share.2.1 132 = .ok (.ifCond .le 21, 3) := by decide +kernel
theorem q_M_share_135 : decode m_M_share.2.1 135 = .ok (.lload 7, 2) := by decide +kernel
theorem q_M_share_137 : decode m_M_share.2.1 137 = .ok (.lload 9, 2) := by decide +kernel
theorem q_M_share_139 : decode m_M_share.2.1 139 = .ok (.lrem, 1) := by decide +kernel
theorem q_M_share_140 : decode m_M_share.2.1 140 = .ok (.lstore 11, 2) := by decide +kernel
theorem q_M_share_142 : decode m_M_share.2.1 142 = .ok (.lload 9, 2) := by decide +kernel
theorem q_M_share_144 : decode m_M_share.2.1 144 = .ok (.lstore 7, 2) := by decide +kernel
theorem q_M_share_146 : decode m_M_share.2.1 146 = .ok (.lload 11, 2) := by decide +kernel
theorem q_M_share_148 : decode m_M_share.2.1 148 = .ok (.lstore 9, 2) := by decide +kernel
theorem q_M_share_150 : decode m_M_share.2.1 150 = .ok (.goto (-22), 3) := by decide +kernel
theorem q_M_share_153 : decode m_M_share.2.1 153 = .ok (.iload_n 2, 1) := by decide +kernel
theorem q_M_share_154 : decode m_M_share.2.1 154 = .ok (.ifCond .ne 10, 3) := by decide +kernel
theorem q_M_share_157 : decode m_M_share.2.1 157 = .ok (.lload_n 3, 1) := by decide +kernel
theorem q_M_share_158 : decode m_M_share.2.1 158 = .ok (.lload 7, 2) := by decide +kernel
theorem q_M_share_160 : decode m_M_share.2.1 160 = .ok (.ldiv, 1) := by decide +kernel
theorem q_M_share_161 : decode m_M_share.2.1 161 = .ok (.goto 8, 3) := by decide +kernel
theorem q_M_share_164 : decode m_M_share.2.1 164 = .ok (.lload 5, 2) := by decide +kernel
theorem q_M_share_166 : decode m_M_share.2.1 166 = .ok (.lload 7, 2) := by decide +kernel
theorem q_M_share_168 : decode m_M_share.2.1 168 = .ok (.ldiv, 1) := by decide +kernel
theorem q_M_share_169 : decode m_M_share.2.1 169 = .ok (.lreturn, 1) := by decide +kernel
theorem q_M_comesBefore_0 : decode m_M_comesBefore.2.1 0 = .ok (.iload_n 1, 1) := by decide +kernel
theorem q_M_comesBefore_1 : decode m_M_comesBefore.2.1 1 = .ok (.iconst 2, 1) := by decide +kernel
theorem q_M_comesBefore_2 : decode m_M_comesBefore.2.1 2 = .ok (.if_icmp .ne 39, 3) := by decide +kernel
theorem q_M_comesBefore_5 : decode m_M_comesBefore.2.1 5 = .ok (.aload_n 0, 1) := by decide +kernel
theorem q_M_comesBefore_6 : decode m_M_comesBefore.2.1 6 = .ok (.getfield 19, 3) := by decide +kernel
theorem q_M_comesBefore_9 : decode m_M_comesBefore.2.1 9 = .ok (.iload_n 2, 1) := by decide +kernel
theorem q_M_comesBefore_10 : decode m_M_comesBefore.2.1 10 = .ok (.iaload, 1) := by decide +kernel
theorem q_M_comesBefore_11 : decode m_M_comesBefore.2.1 11 = .ok (.aload_n 0, 1) := by decide +kernel
theorem q_M_comesBefore_12 : decode m_M_comesBefore.2.1 12 = .ok (.getfield 19, 3) := by decide +kernel
theorem q_M_comesBefore_15 : decode m_M_comesBefore.2.1 15 = .ok (.iload_n 3, 1) := by decide +kernel
theorem q_M_comesBefore_16 : decode m_M_comesBefore.2.1 16 = .ok (.iaload, 1) := by decide +kernel
theorem q_M_comesBefore_17 : decode m_M_comesBefore.2.1 17 = .ok (.if_icmp .eq 24, 3) := by decide +kernel
theorem q_M_comesBefore_20 : decode m_M_comesBefore.2.1 20 = .ok (.aload_n 0, 1) := by decide +kernel
theorem q_M_comesBefore_21 : decode m_M_comesBefore.2.1 21 = .ok (.getfield 19, 3) := by decide +kernel
theorem q_M_comesBefore_24 : decode m_M_comesBefore.2.1 24 = .ok (.iload_n 2, 1) := by decide +kernel
theorem q_M_comesBefore_25 : decode m_M_comesBefore.2.1 25 = .ok (.iaload, 1) := by decide +kernel
theorem q_M_comesBefore_26 : decode m_M_comesBefore.2.1 26 = .ok (.aload_n 0, 1) := by decide +kernel
theorem q_M_comesBefore_27 : decode m_M_comesBefore.2.1 27 = .ok (.getfield 19, 3) := by decide +kernel
theorem q_M_comesBefore_30 : decode m_M_comesBefore.2.1 30 = .ok (.iload_n 3, 1) := by decide +kernel
theorem q_M_comesBefore_31 : decode m_M_comesBefore.2.1 31 = .ok (.iaload, 1) := by decide +kernel
theorem q_M_comesBefore_32 : decode m_M_comesBefore.2.1 32 = .ok (.if_icmp .ge 7, 3) := by decide +kernel
theorem q_M_comesBefore_35 : decode m_M_comesBefore.2.1 35 = .ok (.iconst 1, 1) := by decide +kernel
theorem q_M_comesBefore_36 : decode m_M_comesBefore.2.1 36 = .ok (.goto 4, 3) := by decide +kernel
theorem q_M_comesBefore_39 : decode m_M_comesBefore.2.1 39 = .ok (.iconst 0, 1) := by decide +kernel
theorem q_M_comesBefore_40 : decode m_M_comesBefore.2.1 40 = .ok (.ireturn, 1) := by decide +kernel
theorem q_M_comesBefore_41 : decode m_M_comesBefore.2.1 41 = .ok (.iload_n 1, 1) := by decide +kernel
theorem q_M_comesBefore_42 : decode m_M_comesBefore.2.1 42 = .ok (.iconst 1, 1) := by decide +kernel
theorem q_M_comesBefore_43 : decode m_M_comesBefore.2.1 43 = .ok (.if_icmp .ne 136, 3) := by decide +kernel
theorem q_M_comesBefore_46 : decode m_M_comesBefore.2.1 46 = .ok (.aload_n 0, 1) := by decide +kernel
theorem q_M_comesBefore_47 : decode m_M_comesBefore.2.1 47 = .ok (.getfield 22, 3) := by decide +kernel
theorem q_M_comesBefore_50 : decode m_M_comesBefore.2.1 50 = .ok (.iload_n 2, 1) := by decide +kernel
theorem q_M_comesBefore_51 : decode m_M_comesBefore.2.1 51 = .ok (.laload, 1) := by decide +kernel
theorem q_M_comesBefore_52 : decode m_M_comesBefore.2.1 52 = .ok (.lconst 0, 1) := by decide +kernel
theorem q_M_comesBefore_53 : decode m_M_comesBefore.2.1 53 = .ok (.lcmp, 1) := by decide +kernel
theorem q_M_comesBefore_54 : decode m_M_comesBefore.2.1 54 = .ok (.ifCond .eq 14, 3) := by decide +kernel
theorem q_M_comesBefore_57 : decode m_M_comesBefore.2.1 57 = .ok (.aload_n 0, 1) := by decide +kernel
theorem q_M_comesBefore_58 : decode m_M_comesBefore.2.1 58 = .ok (.getfield 22, 3) := by decide +kernel
theorem q_M_comesBefore_61 : decode m_M_comesBefore.2.1 61 = .ok (.iload_n 3, 1) := by decide +kernel
theorem q_M_comesBefore_62 : decode m_M_comesBefore.2.1 62 = .ok (.laload, 1) := by decide +kernel
theorem q_M_comesBefore_63 : decode m_M_comesBefore.2.1 63 = .ok (.lconst 0, 1) := by decide +kernel
theorem q_M_comesBefore_64 : decode m_M_comesBefore.2.1 64 = .ok (.lcmp, 1) := by decide +kernel
theorem q_M_comesBefore_65 : decode m_M_comesBefore.2.1 65 = .ok (.ifCond .ne 49, 3) := by decide +kernel
theorem q_M_comesBefore_68 : decode m_M_comesBefore.2.1 68 = .ok (.aload_n 0, 1) := by decide +kernel
theorem q_M_comesBefore_69 : decode m_M_comesBefore.2.1 69 = .ok (.getfield 22, 3) := by decide +kernel
theorem q_M_comesBefore_72 : decode m_M_comesBefore.2.1 72 = .ok (.iload_n 2, 1) := by decide +kernel
theorem q_M_comesBefore_73 : decode m_M_comesBefore.2.1 73 = .ok (.laload, 1) := by decide +kernel
theorem q_M_comesBefore_74 : decode m_M_comesBefore.2.1 74 = .ok (.aload_n 0, 1) := by decide +kernel
theorem q_M_comesBefore_75 : decode m_M_comesBefore.2.1 75 = .ok (.getfield 22, 3) := by decide +kernel
theorem q_M_comesBefore_78 : decode m_M_comesBefore.2.1 78 = .ok (.iload_n 3, 1) := by decide +kernel
theorem q_M_comesBefore_79 : decode m_M_comesBefore.2.1 79 = .ok (.laload, 1) := by decide +kernel
theorem q_M_comesBefore_80 : decode m_M_comesBefore.2.1 80 = .ok (.lcmp, 1) := by decide +kernel
theorem q_M_comesBefore_81 : decode m_M_comesBefore.2.1 81 = .ok (.ifCond .ne 16, 3) := by decide +kernel
theorem q_M_comesBefore_84 : decode m_M_comesBefore.2.1 84 = .ok (.iload_n 2, 1) := by decide +kernel
theorem q_M_comesBefore_85 : decode m_M_comesBefore.2.1 85 = .ok (.iload_n 3, 1) := by decide +kernel
theorem q_M_comesBefore_86 : decode m_M_comesBefore.2.1 86 = .ok (.if_icmp .ge 7, 3) := by decide +kernel
theorem q_M_comesBefore_89 : decode m_M_comesBefore.2.1 89 = .ok (.iconst 1, 1) := by decide +kernel
theorem q_M_comesBefore_90 : decode m_M_comesBefore.2.1 90 = .ok (.goto 23, 3) := by decide +kernel
theorem q_M_comesBefore_93 : decode m_M_comesBefore.2.1 93 = .ok (.iconst 0, 1) := by decide +kernel
theorem q_M_comesBefore_94 : decode m_M_comesBefore.2.1 94 = .ok (.goto 19, 3) := by decide +kernel
theorem q_M_comesBefore_97 : decode m_M_comesBefore.2.1 97 = .ok (.aload_n 0, 1) := by decide +kernel
theorem q_M_comesBefore_98 : decode m_M_comesBefore.2.1 98 = .ok (.getfield 22, 3) := by decide +kernel
theorem q_M_comesBefore_101 : decode m_M_comesBefore.2.1 101 = .ok (.iload_n 2, 1) := by decide +kernel
theorem q_M_comesBefore_102 : decode m_M_comesBefore.2.1 102 = .ok (.laload, 1) := by decide +kernel
theorem q_M_comesBefore_103 : decode m_M_comesBefore.2.1 103 = .ok (.lconst 0, 1) := by decide +kernel
theorem q_M_comesBefore_104 : decode m_M_comesBefore.2.1 104 = .ok (.lcmp, 1) := by decide +kernel
theorem q_M_comesBefore_105 : decode m_M_comesBefore.2.1 105 = .ok (.ifCond .ne 7, 3) := by decide +kernel
theorem q_M_comesBefore_108 : decode m_M_comesBefore.2.1 108 = .ok (.iconst 1, 1) := by decide +kernel
theorem q_M_comesBefore_109 : decode m_M_comesBefore.2.1 109 = .ok (.goto 4, 3) := by decide +kernel
theorem q_M_comesBefore_112 : decode m_M_comesBefore.2.1 112 = .ok (.iconst 0, 1) := by decide +kernel
theorem q_M_comesBefore_113 : decode m_M_comesBefore.2.1 113 = .ok (.ireturn, 1) := by decide +kernel
theorem q_M_comesBefore_114 : decode m_M_comesBefore.2.1 114 = .ok (.aload_n 0, 1) := by decide +kernel
theorem q_M_comesBefore_115 : decode m_M_comesBefore.2.1 115 = .ok (.getfield 26, 3) := by decide +kernel
theorem q_M_comesBefore_118 : decode m_M_comesBefore.2.1 118 = .ok (.iload_n 2, 1) := by decide +kernel
theorem q_M_comesBefore_119 : decode m_M_comesBefore.2.1 119 = .ok (.laload, 1) := by decide +kernel
theorem q_M_comesBefore_120 : decode m_M_comesBefore.2.1 120 = .ok (.aload_n 0, 1) := by decide +kernel
theorem q_M_comesBefore_121 : decode m_M_comesBefore.2.1 121 = .ok (.getfield 22, 3) := by decide +kernel
theorem q_M_comesBefore_124 : decode m_M_comesBefore.2.1 124 = .ok (.iload_n 3, 1) := by decide +kernel
theorem q_M_comesBefore_125 : decode m_M_comesBefore.2.1 125 = .ok (.laload, 1) := by decide +kernel
theorem q_M_comesBefore_126 : decode m_M_comesBefore.2.1 126 = .ok (.lmul, 1) := by decide +kernel
theorem q_M_comesBefore_127 : decode m_M_comesBefore.2.1 127 = .ok (.lstore 4, 2) := by decide +kernel
theorem q_M_comesBefore_129 : decode m_M_comesBefore.2.1 129 = .ok (.aload_n 0, 1) := by decide +kernel
theorem q_M_comesBefore_130 : decode m_M_comesBefore.2.1 130 = .ok (.getfield 26, 3) := by decide +kernel
theorem q_M_comesBefore_133 : decode m_M_comesBefore.2.1 133 = .ok (.iload_n 3, 1) := by decide +kernel
theorem q_M_comesBefore_134 : decode m_M_comesBefore.2.1 134 = .ok (.laload, 1) := by decide +kernel
theorem q_M_comesBefore_135 : decode m_M_comesBefore.2.1 135 = .ok (.aload_n 0, 1) := by decide +kernel
theorem q_M_comesBefore_136 : decode m_M_comesBefore.2.1 136 = .ok (.getfield 22, 3) := by decide +kernel
theorem q_M_comesBefore_139 : decode m_M_comesBefore.2.1 139 = .ok (.iload_n 2, 1) := by decide +kernel
theorem q_M_comesBefore_140 : decode m_M_comesBefore.2.1 140 = .ok (.laload, 1) := by decide +kernel
theorem q_M_comesBefore_141 : decode m_M_comesBefore.2.1 141 = .ok (.lmul, 1) := by decide +kernel
theorem q_M_comesBefore_142 : decode m_M_comesBefore.2.1 142 = .ok (.lstore 6, 2) := by decide +kernel
theorem q_M_comesBefore_144 : decode m_M_comesBefore.2.1 144 = .ok (.lload 4, 2) := by decide +kernel
theorem q_M_comesBefore_146 : decode m_M_comesBefore.2.1 146 = .ok (.lload 6, 2) := by decide +kernel
theorem q_M_comesBefore_148 : decode m_M_comesBefore.2.1 148 = .ok (.lcmp, 1) := by decide +kernel
theorem q_M_comesBefore_149 : decode m_M_comesBefore.2.1 149 = .ok (.ifCond .eq 19, 3) := by decide +kernel
theorem q_M_comesBefore_152 : decode m_M_comesBefore.2.1 152 = .ok (.lload 4, 2) := by decide +kernel
theorem q_M_comesBefore_154 : decode m_M_comesBefore.2.1 154 = .ok (.lload 6, 2) := by decide +kernel
theorem q_M_comesBefore_156 : decode m_M_comesBefore.2.1 156 = .ok (.lcmp, 1) := by decide +kernel
theorem q_M_comesBefore_157 : decode m_M_comesBefore.2.1 157 = .ok (.ifCond .le 7, 3) := by decide +kernel
theorem q_M_comesBefore_160 : decode m_M_comesBefore.2.1 160 = .ok (.iconst 1, 1) := by decide +kernel
theorem q_M_comesBefore_161 : decode m_M_comesBefore.2.1 161 = .ok (.goto 17, 3) := by decide +kernel
theorem q_M_comesBefore_164 : decode m_M_comesBefore.2.1 164 = .ok (.iconst 0, 1) := by decide +kernel
theorem q_M_comesBefore_165 : decode m_M_comesBefore.2.1 165 = .ok (.goto 13, 3) := by decide +kernel
theorem q_M_comesBefore_168 : decode m_M_comesBefore.2.1 168 = .ok (.iload_n 2, 1) := by decide +kernel
theorem q_M_comesBefore_169 : decode m_M_comesBefore.2.1 169 = .ok (.iload_n 3, 1) := by decide +kernel
theorem q_M_comesBefore_170 : decode m_M_comesBefore.2.1 170 = .ok (.if_icmp .ge 7, 3) := by decide +kernel
theorem q_M_comesBefore_173 : decode m_M_comesBefore.2.1 173 = .ok (.iconst 1, 1) := by decide +kernel
theorem q_M_comesBefore_174 : decode m_M_comesBefore.2.1 174 = .ok (.goto 4, 3) := by decide +kernel
theorem q_M_comesBefore_177 : decode m_M_comesBefore.2.1 177 = .ok (.iconst 0, 1) := by decide +kernel
theorem q_M_comesBefore_178 : decode m_M_comesBefore.2.1 178 = .ok (.ireturn, 1) := by decide +kernel
theorem q_M_comesBefore_179 : decode m_M_comesBefore.2.1 179 = .ok (.aload_n 0, 1) := by decide +kernel
theorem q_M_comesBefore_180 : decode m_M_comesBefore.2.1 180 = .ok (.getfield 26, 3) := by decide +kernel
theorem q_M_comesBefore_183 : decode m_M_comesBefore.2.1 183 = .ok (.iload_n 2, 1) := by decide +kernel
theorem q_M_comesBefore_184 : decode m_M_comesBefore.2.1 184 = .ok (.laload, 1) := by decide +kernel
theorem q_M_comesBefore_185 : decode m_M_comesBefore.2.1 185 = .ok (.aload_n 0, 1) := by decide +kernel
theorem q_M_comesBefore_186 : decode m_M_comesBefore.2.1 186 = .ok (.getfield 26, 3) := by decide +kernel
theorem q_M_comesBefore_189 : decode m_M_comesBefore.2.1 189 = .ok (.iload_n 3, 1) := by decide +kernel
theorem q_M_comesBefore_190 : decode m_M_comesBefore.2.1 190 = .ok (.laload, 1) := by decide +kernel
theorem q_M_comesBefore_191 : decode m_M_comesBefore.2.1 191 = .ok (.lcmp, 1) := by decide +kernel
theorem q_M_comesBefore_192 : decode m_M_comesBefore.2.1 192 = .ok (.ifCond .eq 27, 3) := by decide +kernel
theorem q_M_comesBefore_195 : decode m_M_comesBefore.2.1 195 = .ok (.aload_n 0, 1) := by decide +kernel
theorem q_M_comesBefore_196 : decode m_M_comesBefore.2.1 196 = .ok (.getfield 26, 3) := by decide +kernel
theorem q_M_comesBefore_199 : decode m_M_comesBefore.2.1 199 = .ok (.iload_n 2, 1) := by decide +kernel
theorem q_M_comesBefore_200 : decode m_M_comesBefore.2.1 200 = .ok (.laload, 1) := by decide +kernel
theorem q_M_comesBefore_201 : decode m_M_comesBefore.2.1 201 = .ok (.aload_n 0, 1) := by decide +kernel
theorem q_M_comesBefore_202 : decode m_M_comesBefore.2.1 202 = .ok (.getfield 26, 3) := by decide +kernel
theorem q_M_comesBefore_205 : decode m_M_comesBefore.2.1 205 = .ok (.iload_n 3, 1) := by decide +kernel
theorem q_M_comesBefore_206 : decode m_M_comesBefore.2.1 206 = .ok (.laload, 1) := by decide +kernel
theorem q_M_comesBefore_207 : decode m_M_comesBefore.2.1 207 = .ok (.lcmp, 1) := by decide +kernel
theorem q_M_comesBefore_208 : decode m_M_comesBefore.2.1 208 = .ok (.ifCond .le 7, 3) := by decide +kernel
theorem q_M_comesBefore_211 : decode m_M_comesBefore.2.1 211 = .ok (.iconst 1, 1) := by decide +kernel
theorem q_M_comesBefore_212 : decode m_M_comesBefore.2.1 212 = .ok (.goto 17, 3) := by decide +kernel
theorem q_M_comesBefore_215 : decode m_M_comesBefore.2.1 215 = .ok (.iconst 0, 1) := by decide +kernel
theorem q_M_comesBefore_216 : decode m_M_comesBefore.2.1 216 = .ok (.goto 13, 3) := by decide +kernel
theorem q_M_comesBefore_219 : decode m_M_comesBefore.2.1 219 = .ok (.iload_n 2, 1) := by decide +kernel
theorem q_M_comesBefore_220 : decode m_M_comesBefore.2.1 220 = .ok (.iload_n 3, 1) := by decide +kernel
theorem q_M_comesBefore_221 : decode m_M_comesBefore.2.1 221 = .ok (.if_icmp .ge 7, 3) := by decide +kernel
theorem q_M_comesBefore_224 : decode m_M_comesBefore.2.1 224 = .ok (.iconst 1, 1) := by decide +kernel
theorem q_M_comesBefore_225 : decode m_M_comesBefore.2.1 225 = .ok (.goto 4, 3) := by decide +kernel
theorem q_M_comesBefore_228 : decode m_M_comesBefore.2.1 228 = .ok (.iconst 0, 1) := by decide +kernel
theorem q_M_comesBefore_229 : decode m_M_comesBefore.2.1 229 = .ok (.ireturn, 1) := by decide +kernel
theorem q_M_planBy_0 : decode m_M_planBy.2.1 0 = .ok (.aload_n 0, 1) := by decide +kernel
theorem q_M_planBy_1 : decode m_M_planBy.2.1 1 = .ok (.aload_n 0, 1) := by decide +kernel
theorem q_M_planBy_2 : decode m_M_planBy.2.1 2 = .ok (.getfield 91, 3) := by decide +kernel
theorem q_M_planBy_5 : decode m_M_planBy.2.1 5 = .ok (.invokevirtual 120, 3) := by decide +kernel
theorem q_M_planBy_8 : decode m_M_planBy.2.1 8 = .ok (.ifCond .ne 5, 3) := by decide +kernel
theorem q_M_planBy_11 : decode m_M_planBy.2.1 11 = .ok (.iconst (-1), 1) := by decide +kernel
theorem q_M_planBy_12 : decode m_M_planBy.2.1 12 = .ok (.ireturn, 1) := by decide +kernel
theorem q_M_planBy_13 : decode m_M_planBy.2.1 13 = .ok (.aload_n 0, 1) := by decide +kernel
theorem q_M_planBy_14 : decode m_M_planBy.2.1 14 = .ok (.getfield 91, 3) := by decide +kernel
theorem q_M_planBy_17 : decode m_M_planBy.2.1 17 = .ok (.istore_n 2, 1) := by decide +kernel
theorem q_M_planBy_18 : decode m_M_planBy.2.1 18 = .ok (.iconst 0, 1) := by decide +kernel
theorem q_M_planBy_19 : decode m_M_planBy.2.1 19 = .ok (.istore_n 3, 1) := by decide +kernel
theorem q_M_planBy_20 : decode m_M_planBy.2.1 20 = .ok (.iload_n 3, 1) := by decide +kernel
theorem q_M_planBy_21 : decode m_M_planBy.2.1 21 = .ok (.aload_n 0, 1) := by decide +kernel
theorem q_M_planBy_22 : decode m_M_planBy.2.1 22 = .ok (.getfield 84, 3) := by decide +kernel
theorem q_M_planBy_25 : decode m_M_planBy.2.1 25 = .ok (.if_icmp .ge 65, 3) := by decide +kernel
theorem q_M_planBy_28 : decode m_M_planBy.2.1 28 = .ok (.iload_n 3, 1) := by decide +kernel
theorem q_M_planBy_29 : decode m_M_planBy.2.1 29 = .ok (.istore 4, 2) := by decide +kernel
theorem q_M_planBy_31 : decode m_M_planBy.2.1 31 = .ok (.iload 4, 2) := by decide +kernel
theorem q_M_planBy_33 : decode m_M_planBy.2.1 33 = .ok (.ifCond .le 43, 3) := by decide +kernel
theorem q_M_planBy_36 : decode m_M_planBy.2.1 36 = .ok (.aload_n 0, 1) := by decide +kernel
theorem q_M_planBy_37 : decode m_M_planBy.2.1 37 = .ok (.iload_n 1, 1) := by decide +kernel
theorem q_M_planBy_38 : decode m_M_planBy.2.1 38 = .ok (.iload_n 3, 1) := by decide +kernel
theorem q_M_planBy_39 : decode m_M_planBy.2.1 39 = .ok (.aload_n 0, 1) := by decide +kernel
theorem q_M_planBy_40 : decode m_M_planBy.2.1 40 = .ok (.getfield 57, 3) := by decide +kernel
theorem q_M_planBy_43 : decode m_M_planBy.2.1 43 = .ok (.iload 4, 2) := by decide +kernel
theorem q_M_planBy_45 : decode m_M_planBy.2.1 45 = .ok (.iconst 1, 1) := by decide +kernel
theorem q_M_planBy_46 : decode m_M_planBy.2.1 46 = .ok (.isub, 1) := by decide +kernel
theorem q_M_planBy_47 : decode m_M_planBy.2.1 47 = .ok (.iaload, 1) := by decide +kernel
theorem q_M_planBy_48 : decode m_M_planBy.2.1 48 = .ok (.invokevirtual 170, 3) := by decide +kernel
theorem q_M_planBy_51 : decode m_M_planBy.2.1 51 = .ok (.ifCond .eq 25, 3) := by decide +kernel
theorem q_M_planBy_54 : decode m_M_planBy.2.1 54 = .ok (.aload_n 0, 1) := by decide +kernel
theorem q_M_planBy_55 : decode m_M_planBy.2.1 55 = .ok (.getfield 57, 3) := by decide +kernel
theorem q_M_planBy_58 : decode m_M_planBy.2.1 58 = .ok (.iload 4, 2) := by decide +kernel
theorem q_M_planBy_60 : decode m_M_planBy.2.1 60 = .ok (.aload_n 0, 1) := by decide +kernel
theorem q_M_planBy_61 : decode m_M_planBy.2.1 61 = .ok (.getfield 57, 3) := by decide +kernel
theorem q_M_planBy_64 : decode m_M_planBy.2.1 64 = .ok (.iload 4, 2) := by decide +kernel
theorem q_M_planBy_66 : decode m_M_planBy.2.1 66 = .ok (.iconst 1, 1) := by decide +kernel
theorem q_M_planBy_67 : decode m_M_planBy.2.1 67 = .ok (.isub, 1) := by decide +kernel
theorem q_M_planBy_68 : decode m_M_planBy.2.1 68 = .ok (.iaload, 1) := by decide +kernel
theorem q_M_planBy_69 : decode m_M_planBy.2.1 69 = .ok (.iastore, 1) := by decide +kernel
theorem q_M_planBy_70 : decode m_M_planBy.2.1 70 = .ok (.iinc 4 (-1), 3) := by decide +kernel
theorem q_M_planBy_73 : decode m_M_planBy.2.1 73 = .ok (.goto (-42), 3) := by decide +kernel
theorem q_M_planBy_76 : decode m_M_planBy.2.1 76 = .ok (.aload_n 0, 1) := by decide +kernel
theorem q_M_planBy_77 : decode m_M_planBy.2.1 77 = .ok (.getfield 57, 3) := by decide +kernel
theorem q_M_planBy_80 : decode m_M_planBy.2.1 80 = .ok (.iload 4, 2) := by decide +kernel
theorem q_M_planBy_82 : decode m_M_planBy.2.1 82 = .ok (.iload_n 3, 1) := by decide +kernel
theorem q_M_planBy_83 : decode m_M_planBy.2.1 83 = .ok (.iastore, 1) := by decide +kernel
theorem q_M_planBy_84 : decode m_M_planBy.2.1 84 = .ok (.iinc 3 1, 3) := by decide +kernel
theorem q_M_planBy_87 : decode m_M_planBy.2.1 87 = .ok (.goto (-67), 3) := by decide +kernel
theorem q_M_planBy_90 : decode m_M_planBy.2.1 90 = .ok (.iconst 0, 1) := by decide +kernel
theorem q_M_planBy_91 : decode m_M_planBy.2.1 91 = .ok (.istore_n 3, 1) := by decide +kernel
theorem q_M_planBy_92 : decode m_M_planBy.2.1 92 = .ok (.iload_n 3, 1) := by decide +kernel
theorem q_M_planBy_93 : decode m_M_planBy.2.1 93 = .ok (.aload_n 0, 1) := by decide +kernel
theorem q_M_planBy_94 : decode m_M_planBy.2.1 94 = .ok (.getfield 84, 3) := by decide +kernel
theorem q_M_planBy_97 : decode m_M_planBy.2.1 97 = .ok (.if_icmp .ge 37, 3) := by decide +kernel
theorem q_M_planBy_100 : decode m_M_planBy.2.1 100 = .ok (.iload_n 2, 1) := by decide +kernel
theorem q_M_planBy_101 : decode m_M_planBy.2.1 101 = .ok (.iconst 1, 1) := by decide +kernel
theorem q_M_planBy_102 : decode m_M_planBy.2.1 102 = .ok (.aload_n 0, 1) := by decide +kernel
theorem q_M_planBy_103 : decode m_M_planBy.2.1 103 = .ok (.getfield 57, 3) := by decide +kernel
theorem q_M_planBy_106 : decode m_M_planBy.2.1 106 = .ok (.iload_n 3, 1) := by decide +kernel
theorem q_M_planBy_107 : decode m_M_planBy.2.1 107 = .ok (.iaload, 1) := by decide +kernel
theorem q_M_planBy_108 : decode m_M_planBy.2.1 108 = .ok (.ishl, 1) := by decide +kernel
theorem q_M_planBy_109 : decode m_M_planBy.2.1 109 = .ok (.ior, 1) := by decide +kernel
theorem q_M_planBy_110 : decode m_M_planBy.2.1 110 = .ok (.istore 4, 2) := by decide +kernel
theorem q_M_planBy_112 : decode m_M_planBy.2.1 112 = .ok (.aload_n 0, 1) := by decide +kernel
theorem q_M_planBy_113 : decode m_M_planBy.2.1 113 = .ok (.iload 4, 2) := by decide +kernel
theorem q_M_planBy_115 : decode m_M_planBy.2.1 115 = .ok (.invokevirtual 120, 3) := by decide +kernel
theorem q_M_planBy_118 : decode m_M_planBy.2.1 118 = .ok (.ifCond .eq 8, 3) := by decide +kernel
theorem q_M_planBy_121 : decode m_M_planBy.2.1 121 = .ok (.iload 4, 2) := by decide +kernel
theorem q_M_planBy_123 : decode m_M_planBy.2.1 123 = .ok (.goto 4, 3) := by decide +kernel
theorem q_M_planBy_126 : decode m_M_planBy.2.1 126 = .ok (.iload_n 2, 1) := by decide +kernel
theorem q_M_planBy_127 : decode m_M_planBy.2.1 127 = .ok (.istore_n 2, 1) := by decide +kernel
theorem q_M_planBy_128 : decode m_M_planBy.2.1 128 = .ok (.iinc 3 1, 3) := by decide +kernel
theorem q_M_planBy_131 : decode m_M_planBy.2.1 131 = .ok (.goto (-39), 3) := by decide +kernel
theorem q_M_planBy_134 : decode m_M_planBy.2.1 134 = .ok (.iload_n 2, 1) := by decide +kernel
theorem q_M_planBy_135 : decode m_M_planBy.2.1 135 = .ok (.ireturn, 1) := by decide +kernel
theorem q_M_policy_0 : decode m_M_policy.2.1 0 = .ok (.iload_n 1, 1) := by decide +kernel
theorem q_M_policy_1 : decode m_M_policy.2.1 1 = .ok (.ifCond .lt 8, 3) := by decide +kernel
theorem q_M_policy_4 : decode m_M_policy.2.1 4 = .ok (.iload_n 1, 1) := by decide +kernel
theorem q_M_policy_5 : decode m_M_policy.2.1 5 = .ok (.iconst 2, 1) := by decide +kernel
theorem q_M_policy_6 : decode m_M_policy.2.1 6 = .ok (.if_icmp .le 10, 3) := by decide +kernel
theorem q_M_policy_9 : decode m_M_policy.2.1 9 = .ok (.aload_n 0, 1) := by decide +kernel
theorem q_M_policy_10 : decode m_M_policy.2.1 10 = .ok (.iconst (-1), 1) := by decide +kernel
theorem q_M_policy_11 : decode m_M_policy.2.1 11 = .ok (.putfield 47, 3) := by decide +kernel
theorem q_M_policy_14 : decode m_M_policy.2.1 14 = .ok (.iconst (-1), 1) := by decide +kernel
theorem q_M_policy_15 : decode m_M_policy.2.1 15 = .ok (.ireturn, 1) := by decide +kernel
theorem q_M_policy_16 : decode m_M_policy.2.1 16 = .ok (.aload_n 0, 1) := by decide +kernel
theorem q_M_policy_17 : decode m_M_policy.2.1 17 = .ok (.aload_n 0, 1) := by decide +kernel
theorem q_M_policy_18 : decode m_M_policy.2.1 18 = .ok (.iload_n 1, 1) := by decide +kernel
theorem q_M_policy_19 : decode m_M_policy.2.1 19 = .ok (.invokevirtual 174, 3) := by decide +kernel
theorem q_M_policy_22 : decode m_M_policy.2.1 22 = .ok (.putfield 47, 3) := by decide +kernel
theorem q_M_policy_25 : decode m_M_policy.2.1 25 = .ok (.aload_n 0, 1) := by decide +kernel
theorem q_M_policy_26 : decode m_M_policy.2.1 26 = .ok (.getfield 47, 3) := by decide +kernel
theorem q_M_policy_29 : decode m_M_policy.2.1 29 = .ok (.iconst (-1), 1) := by decide +kernel
theorem q_M_policy_30 : decode m_M_policy.2.1 30 = .ok (.if_icmp .ne 7, 3) := by decide +kernel
theorem q_M_policy_33 : decode m_M_policy.2.1 33 = .ok (.iconst (-1), 1) := by decide +kernel
theorem q_M_policy_34 : decode m_M_policy.2.1 34 = .ok (.goto 12, 3) := by decide +kernel
theorem q_M_policy_37 : decode m_M_policy.2.1 37 = .ok (.aload_n 0, 1) := by decide +kernel
theorem q_M_policy_38 : decode m_M_policy.2.1 38 = .ok (.aload_n 0, 1) := by decide +kernel
theorem q_M_policy_39 : decode m_M_policy.2.1 39 = .ok (.getfield 47, 3) := by decide +kernel
theorem q_M_policy_42 : decode m_M_policy.2.1 42 = .ok (.invokevirtual 123, 3) := by decide +kernel
theorem q_M_policy_45 : decode m_M_policy.2.1 45 = .ok (.l2i, 1) := by decide +kernel
theorem q_M_policy_46 : decode m_M_policy.2.1 46 = .ok (.ireturn, 1) := by decide +kernel
theorem q_M_compare_0 : decode m_M_compare.2.1 0 = .ok (.iload_n 1, 1) := by decide +kernel
theorem q_M_compare_1 : decode m_M_compare.2.1 1 = .ok (.ifCond .lt 17, 3) := by decide +kernel
theorem q_M_compare_4 : decode m_M_compare.2.1 4 = .ok (.iload_n 1, 1) := by decide +kernel
theorem q_M_compare_5 : decode m_M_compare.2.1 5 = .ok (.iconst 2, 1) := by decide +kernel
theorem q_M_compare_6 : decode m_M_compare.2.1 6 = .ok (.if_icmp .gt 12, 3) := by decide +kernel
theorem q_M_compare_9 : decode m_M_compare.2.1 9 = .ok (.iload_n 2, 1) := by decide +kernel
theorem q_M_compare_10 : decode m_M_compare.2.1 10 = .ok (.ifCond .lt 8, 3) := by decide +kernel
theorem q_M_compare_13 : decode m_M_compare.2.1 13 = .ok (.iload_n 2, 1) := by decide +kernel
theorem q_M_compare_14 : decode m_M_compare.2.1 14 = .ok (.iconst 2, 1) := by decide +kernel
theorem q_M_compare_15 : decode m_M_compare.2.1 15 = .ok (.if_icmp .le 7, 3) := by decide +kernel
theorem q_M_compare_18 : decode m_M_compare.2.1 18 = .ok (.ldc2_w 41, 3) := by decide +kernel
theorem q_M_compare_21 : decode m_M_compare.2.1 21 = .ok (.lreturn, 1) := by decide +kernel
theorem q_M_compare_22 : decode m_M_compare.2.1 22 = .ok (.aload_n 0, 1) := by decide +kernel
theorem q_M_compare_23 : decode m_M_compare.2.1 23 = .ok (.iload_n 1, 1) := by decide +kernel
theorem q_M_compare_24 : decode m_M_compare.2.1 24 = .ok (.invokevirtual 174, 3) := by decide +kernel
theorem q_M_compare_27 : decode m_M_compare.2.1 27 = .ok (.istore_n 3, 1) := by decide +kernel
theorem q_M_compare_28 : decode m_M_compare.2.1 28 = .ok (.aload_n 0, 1) := by decide +kernel
theorem q_M_compare_29 : decode m_M_compare.2.1 29 = .ok (.iload_n 2, 1) := by decide +kernel
theorem q_M_compare_30 : decode m_M_compare.2.1 30 = .ok (.invokevirtual 174, 3) := by decide +kernel
theorem q_M_compare_33 : decode m_M_compare.2.1 33 = .ok (.istore 4, 2) := by decide +kernel
theorem q_M_compare_35 : decode m_M_compare.2.1 35 = .ok (.iload_n 3, 1) := by decide +kernel
theorem q_M_compare_36 : decode m_M_compare.2.1 36 = .ok (.iconst (-1), 1) := by decide +kernel
theorem q_M_compare_37 : decode m_M_compare.2.1 37 = .ok (.if_icmp .eq 9, 3) := by decide +kernel
theorem q_M_compare_40 : decode m_M_compare.2.1 40 = .ok (.iload 4, 2) := by decide +kernel
theorem q_M_compare_42 : decode m_M_compare.2.1 42 = .ok (.iconst (-1), 1) := by decide +kernel
theorem q_M_compare_43 : decode m_M_compare.2.1 43 = .ok (.if_icmp .ne 9, 3) := by decide +kernel
theorem q_M_compare_46 : decode m_M_compare.2.1 46 = .ok (.ldc2_w 41, 3) := by decide +kernel
theorem q_M_compare_49 : decode m_M_compare.2.1 49 = .ok (.goto 15, 3) := by decide +kernel
theorem q_M_compare_52 : decode m_M_compare.2.1 52 = .ok (.aload_n 0, 1) := by decide +kernel
theorem q_M_compare_53 : decode m_M_compare.2.1 53 = .ok (.iload_n 3, 1) := by decide +kernel
theorem q_M_compare_54 : decode m_M_compare.2.1 54 = .ok (.invokevirtual 123, 3) := by decide +kernel
theorem q_M_compare_57 : decode m_M_compare.2.1 57 = .ok (.aload_n 0, 1) := by decide +kernel
theorem q_M_compare_58 : decode m_M_compare.2.1 58 = .ok (.iload 4, 2) := by decide +kernel
theorem q_M_compare_60 : decode m_M_compare.2.1 60 = .ok (.invokevirtual 123, 3) := by decide +kernel
theorem q_M_compare_63 : decode m_M_compare.2.1 63 = .ok (.lsub, 1) := by decide +kernel
theorem q_M_compare_64 : decode m_M_compare.2.1 64 = .ok (.lreturn, 1) := by decide +kernel
theorem q_M_list_0 : decode m_M_list.2.1 0 = .ok (.iconst 0, 1) := by decide +kernel
theorem q_M_list_1 : decode m_M_list.2.1 1 = .ok (.istore_n 3, 1) := by decide +kernel
theorem q_M_list_2 : decode m_M_list.2.1 2 = .ok (.iconst 0, 1) := by decide +kernel
theorem q_M_list_3 : decode m_M_list.2.1 3 = .ok (.istore 4, 2) := by decide +kernel
theorem q_M_list_5 : decode m_M_list.2.1 5 = .ok (.iload 4, 2) := by decide +kernel
theorem q_M_list_7 : decode m_M_list.2.1 7 = .ok (.aload_n 0, 1) := by decide +kernel
theorem q_M_list_8 : decode m_M_list.2.1 8 = .ok (.getfield 63, 3) := by decide +kernel
theorem q_M_list_11 : decode m_M_list.2.1 11 = .ok (.if_icmp .ge 86, 3) := by decide +kernel
theorem q_M_list_14 : decode m_M_list.2.1 14 = .ok (.aload_n 0, 1) := by decide +kernel
theorem q_M_list_15 : decode m_M_list.2.1 15 = .ok (.getfield 47, 3) := by decide +kernel
theorem q_M_list_18 : decode m_M_list.2.1 18 = .ok (.iconst (-1), 1) := by decide +kernel
theorem q_M_list_19 : decode m_M_list.2.1 19 = .ok (.if_icmp .eq 78, 3) := by decide +kernel
theorem q_M_list_22 : decode m_M_list.2.1 22 = .ok (.iconst 0, 1) := by decide +kernel
theorem q_M_list_23 : decode m_M_list.2.1 23 = .ok (.istore 5, 2) := by decide +kernel
theorem q_M_list_25 : decode m_M_list.2.1 25 = .ok (.iload 5, 2) := by decide +kernel
theorem q_M_list_27 : decode m_M_list.2.1 27 = .ok (.aload_n 0, 1) := by decide +kernel
theorem q_M_list_28 : decode m_M_list.2.1 28 = .ok (.getfield 84, 3) := by decide +kernel
theorem q_M_list_31 : decode m_M_list.2.1 31 = .ok (.if_icmp .ge 60, 3) := by decide +kernel
theorem q_M_list_34 : decode m_M_list.2.1 34 = .ok (.aload_n 0, 1) := by decide +kernel
theorem q_M_list_35 : decode m_M_list.2.1 35 = .ok (.getfield 47, 3) := by decide +kernel
theorem q_M_list_38 : decode m_M_list.2.1 38 = .ok (.iload 5, 2) := by decide +kernel
theorem q_M_list_40 : decode m_M_list.2.1 40 = .ok (.invokestatic 94, 3) := by decide +kernel
theorem q_M_list_43 : decode m_M_list.2.1 43 = .ok (.ifCond .eq 42, 3) := by decide +kernel
theorem q_M_list_46 : decode m_M_list.2.1 46 = .ok (.aload_n 0, 1) := by decide +kernel
theorem q_M_list_47 : decode m_M_list.2.1 47 = .ok (.getfield 19, 3) := by decide +kernel
theorem q_M_list_50 : decode m_M_list.2.1 50 = .ok (.iload 5, 2) := by decide +kernel
theorem q_M_list_52 : decode m_M_list.2.1 52 = .ok (.iaload, 1) := by decide +kernel
theorem q_M_list_53 : decode m_M_list.2.1 53 = .ok (.iload 4, 2) := by decide +kernel
theorem q_M_list_55 : decode m_M_list.2.1 55 = .ok (.if_icmp .ne 30, 3) := by decide +kernel
theorem q_M_list_58 : decode m_M_list.2.1 58 = .ok (.aload_n 0, 1) := by decide +kernel
theorem q_M_list_59 : decode m_M_list.2.1 59 = .ok (.getfield 13, 3) := by decide +kernel
theorem q_M_list_62 : decode m_M_list.2.1 62 = .ok (.aload_n 0, 1) := by decide +kernel
theorem q_M_list_63 : decode m_M_list.2.1 63 = .ok (.getfield 16, 3) := by decide +kernel
theorem q_M_list_66 : decode m_M_list.2.1 66 = .ok (.iload 5, 2) := by decide +kernel
theorem q_M_list_68 : decode m_M_list.2.1 68 = .ok (.iaload, 1) := by decide +kernel
theorem q_M_list_69 : decode m_M_list.2.1 69 = .ok (.iaload, 1) := by decide +kernel
theorem q_M_list_70 : decode m_M_list.2.1 70 = .ok (.iload_n 1, 1) := by decide +kernel
theorem q_M_list_71 : decode m_M_list.2.1 71 = .ok (.if_icmp .ne 14, 3) := by decide +kernel
theorem q_M_list_74 : decode m_M_list.2.1 74 = .ok (.iload_n 3, 1) := by decide +kernel
theorem q_M_list_75 : decode m_M_list.2.1 75 = .ok (.iload_n 2, 1) := by decide +kernel
theorem q_M_list_76 : decode m_M_list.2.1 76 = .ok (.if_icmp .ne 6, 3) := by decide +kernel
theorem q_M_list_79 : decode m_M_list.2.1 79 = .ok (.iload 5, 2) := by decide +kernel
theorem q_M_list_81 : decode m_M_list.2.1 81 = .ok (.ireturn, 1) := by decide +kernel
theorem q_M_list_82 : decode m_M_list.2.1 82 = .ok (.iinc 3 1, 3) := by decide +kernel
theorem q_M_list_85 : decode m_M_list.2.1 85 = .ok (.iinc 5 1, 3) := by decide +kernel
theorem q_M_list_88 : decode m_M_list.2.1 88 = .ok (.goto (-63), 3) := by decide +kernel
theorem q_M_list_91 : decode m_M_list.2.1 91 = .ok (.iinc 4 1, 3) := by decide +kernel
theorem q_M_list_94 : decode m_M_list.2.1 94 = .ok (.goto (-89), 3) := by decide +kernel
theorem q_M_list_97 : decode m_M_list.2.1 97 = .ok (.iconst (-1), 1) := by decide +kernel
theorem q_M_list_98 : decode m_M_list.2.1 98 = .ok (.ireturn, 1) := by decide +kernel
theorem q_M_earlier_0 : decode m_M_earlier.2.1 0 = .ok (.aload_n 0, 1) := by decide +kernel
theorem q_M_earlier_1 : decode m_M_earlier.2.1 1 = .ok (.iload_n 1, 1) := by decide +kernel
theorem q_M_earlier_2 : decode m_M_earlier.2.1 2 = .ok (.invokevirtual 98, 3) := by decide +kernel
theorem q_M_earlier_5 : decode m_M_earlier.2.1 5 = .ok (.ifCond .eq 11, 3) := by decide +kernel
theorem q_M_earlier_8 : decode m_M_earlier.2.1 8 = .ok (.aload_n 0, 1) := by decide +kernel
theorem q_M_earlier_9 : decode m_M_earlier.2.1 9 = .ok (.getfield 47, 3) := by decide +kernel
theorem q_M_earlier_12 : decode m_M_earlier.2.1 12 = .ok (.iconst (-1), 1) := by decide +kernel
theorem q_M_earlier_13 : decode m_M_earlier.2.1 13 = .ok (.if_icmp .ne 5, 3) := by decide +kernel
theorem q_M_earlier_16 : decode m_M_earlier.2.1 16 = .ok (.iconst (-1), 1) := by decide +kernel
theorem q_M_earlier_17 : decode m_M_earlier.2.1 17 = .ok (.ireturn, 1) := by decide +kernel
theorem q_M_earlier_18 : decode m_M_earlier.2.1 18 = .ok (.iconst 0, 1) := by decide +kernel
theorem q_M_earlier_19 : decode m_M_earlier.2.1 19 = .ok (.istore_n 2, 1) := by decide +kernel
theorem q_M_earlier_20 : decode m_M_earlier.2.1 20 = .ok (.iconst 0, 1) := by decide +kernel
theorem q_M_earlier_21 : decode m_M_earlier.2.1 21 = .ok (.istore_n 3, 1) := by decide +kernel
theorem q_M_earlier_22 : decode m_M_earlier.2.1 22 = .ok (.iload_n 3, 1) := by decide +kernel
theorem q_M_earlier_23 : decode m_M_earlier.2.1 23 = .ok (.aload_n 0, 1) := by decide +kernel
theorem q_M_earlier_24 : decode m_M_earlier.2.1 24 = .ok (.getfield 84, 3) := by decide +kernel
theorem q_M_earlier_27 : decode m_M_earlier.2.1 27 = .ok (.if_icmp .ge 38, 3) := by decide +kernel
theorem q_M_earlier_30 : decode m_M_earlier.2.1 30 = .ok (.iload_n 2, 1) := by decide +kernel
theorem q_M_earlier_31 : decode m_M_earlier.2.1 31 = .ok (.aload_n 0, 1) := by decide +kernel
theorem q_M_earlier_32 : decode m_M_earlier.2.1 32 = .ok (.getfield 47, 3) := by decide +kernel
theorem q_M_earlier_35 : decode m_M_earlier.2.1 35 = .ok (.iload_n 3, 1) := by decide +kernel
theorem q_M_earlier_36 : decode m_M_earlier.2.1 36 = .ok (.invokestatic 94, 3) := by decide +kernel
theorem q_M_earlier_39 : decode m_M_earlier.2.1 39 = .ok (.ifCond .eq 17, 3) := by decide +kernel
theorem q_M_earlier_42 : decode m_M_earlier.2.1 42 = .ok (.aload_n 0, 1) := by decide +kernel
theorem q_M_earlier_43 : decode m_M_earlier.2.1 43 = .ok (.getfield 19, 3) := by decide +kernel
theorem q_M_earlier_46 : decode m_M_earlier.2.1 46 = .ok (.iload_n 3, 1) := by decide +kernel
theorem q_M_earlier_47 : decode m_M_earlier.2.1 47 = .ok (.iaload, 1) := by decide +kernel
theorem q_M_earlier_48 : decode m_M_earlier.2.1 48 = .ok (.iload_n 1, 1) := by decide +kernel
theorem q_M_earlier_49 : decode m_M_earlier.2.1 49 = .ok (.if_icmp .ge 7, 3) := by decide +kernel
theorem q_M_earlier_52 : decode m_M_earlier.2.1 52 = .ok (.iconst 1, 1) := by decide +kernel
theorem q_M_earlier_53 : decode m_M_earlier.2.1 53 = .ok (.goto 4, 3) := by decide +kernel
theorem q_M_earlier_56 : decode m_M_earlier.2.1 56 = .ok (.iconst 0, 1) := by decide +kernel
theorem q_M_earlier_57 : decode m_M_earlier.2.1 57 = .ok (.iadd, 1) := by decide +kernel
theorem q_M_earlier_58 : decode m_M_earlier.2.1 58 = .ok (.istore_n 2, 1) := by decide +kernel
theorem q_M_earlier_59 : decode m_M_earlier.2.1 59 = .ok (.iinc 3 1, 3) := by decide +kernel
theorem q_M_earlier_62 : decode m_M_earlier.2.1 62 = .ok (.goto (-40), 3) := by decide +kernel
theorem q_M_earlier_65 : decode m_M_earlier.2.1 65 = .ok (.iload_n 2, 1) := by decide +kernel
theorem q_M_earlier_66 : decode m_M_earlier.2.1 66 = .ok (.ireturn, 1) := by decide +kernel
theorem q_M_holds_0 : decode m_M_holds.2.1 0 = .ok (.aload_n 0, 1) := by decide +kernel
theorem q_M_holds_1 : decode m_M_holds.2.1 1 = .ok (.iload_n 1, 1) := by decide +kernel
theorem q_M_holds_2 : decode m_M_holds.2.1 2 = .ok (.invokevirtual 98, 3) := by decide +kernel
theorem q_M_holds_5 : decode m_M_holds.2.1 5 = .ok (.ifCond .eq 34, 3) := by decide +kernel
theorem q_M_holds_8 : decode m_M_holds.2.1 8 = .ok (.aload_n 0, 1) := by decide +kernel
theorem q_M_holds_9 : decode m_M_holds.2.1 9 = .ok (.getfield 47, 3) := by decide +kernel
theorem q_M_holds_12 : decode m_M_holds.2.1 12 = .ok (.iconst (-1), 1) := by decide +kernel
theorem q_M_holds_13 : decode m_M_holds.2.1 13 = .ok (.if_icmp .eq 26, 3) := by decide +kernel
theorem q_M_holds_16 : decode m_M_holds.2.1 16 = .ok (.aload_n 0, 1) := by decide +kernel
theorem q_M_holds_17 : decode m_M_holds.2.1 17 = .ok (.aload_n 0, 1) := by decide +kernel
theorem q_M_holds_18 : decode m_M_holds.2.1 18 = .ok (.getfield 47, 3) := by decide +kernel
theorem q_M_holds_21 : decode m_M_holds.2.1 21 = .ok (.iload_n 1, 1) := by decide +kernel
theorem q_M_holds_22 : decode m_M_holds.2.1 22 = .ok (.invokevirtual 113, 3) := by decide +kernel
theorem q_M_holds_25 : decode m_M_holds.2.1 25 = .ok (.aload_n 0, 1) := by decide +kernel
theorem q_M_holds_26 : decode m_M_holds.2.1 26 = .ok (.getfield 29, 3) := by decide +kernel
theorem q_M_holds_29 : decode m_M_holds.2.1 29 = .ok (.iload_n 1, 1) := by decide +kernel
theorem q_M_holds_30 : decode m_M_holds.2.1 30 = .ok (.laload, 1) := by decide +kernel
theorem q_M_holds_31 : decode m_M_holds.2.1 31 = .ok (.lcmp, 1) := by decide +kernel
theorem q_M_holds_32 : decode m_M_holds.2.1 32 = .ok (.ifCond .gt 7, 3) := by decide +kernel
theorem q_M_holds_35 : decode m_M_holds.2.1 35 = .ok (.iconst 1, 1) := by decide +kernel
theorem q_M_holds_36 : decode m_M_holds.2.1 36 = .ok (.goto 4, 3) := by decide +kernel
theorem q_M_holds_39 : decode m_M_holds.2.1 39 = .ok (.iconst 0, 1) := by decide +kernel
theorem q_M_holds_40 : decode m_M_holds.2.1 40 = .ok (.ireturn, 1) := by decide +kernel
