theorem dX5_duel_78 : decode cX5_duel 78 = .ok (.iload_n 1, 1) := by decide +kernel
theorem dX5_duel_79 : decode cX5_duel 79 = .ok (.iconst 1, 1) := by decide +kernel
theorem dX5_duel_80 : decode cX5_duel 80 = .ok (.isub, 1) := by decide +kernel
theorem dX5_duel_81 : decode cX5_duel 81 = .ok (.istore_n 3, 1) := by decide +kernel
theorem dX5_duel_82 : decode cX5_duel 82 = .ok (.iload_n 3, 1) := by decide +kernel
theorem dX5_duel_83 : decode cX5_duel 83 = .ok (.ifCond .lt 121, 3) := by decide +kernel
theorem dX5_duel_86 : decode cX5_duel 86 = .ok (.iload_n 3, 1) := by decide +kernel
theorem dX5_duel_87 : decode cX5_duel 87 = .ok (.iconst 2, 1) := by decide +kernel
theorem dX5_duel_88 : decode cX5_duel 88 = .ok (.irem, 1) := by decide +kernel
theorem dX5_duel_89 : decode cX5_duel 89 = .ok (.ifCond .ne 7, 3) := by decide +kernel
theorem dX5_duel_92 : decode cX5_duel 92 = .ok (.iconst 3, 1) := by decide +kernel
theorem dX5_duel_93 : decode cX5_duel 93 = .ok (.goto 4, 3) := by decide +kernel
theorem dX5_duel_96 : decode cX5_duel 96 = .ok (.iconst 2, 1) := by decide +kernel
theorem dX5_duel_97 : decode cX5_duel 97 = .ok (.istore 4, 2) := by decide +kernel
theorem dX5_duel_99 : decode cX5_duel 99 = .ok (.iload_n 2, 1) := by decide +kernel
theorem dX5_duel_100 : decode cX5_duel 100 = .ok (.iload 4, 2) := by decide +kernel
theorem dX5_duel_102 : decode cX5_duel 102 = .ok (.idiv, 1) := by decide +kernel
theorem dX5_duel_103 : decode cX5_duel 103 = .ok (.istore_n 2, 1) := by decide +kernel
theorem dX5_duel_104 : decode cX5_duel 104 = .ok (.iconst 0, 1) := by decide +kernel
theorem dX5_duel_105 : decode cX5_duel 105 = .ok (.istore 5, 2) := by decide +kernel
theorem dX5_duel_107 : decode cX5_duel 107 = .ok (.iload 5, 2) := by decide +kernel
theorem dX5_duel_109 : decode cX5_duel 109 = .ok (.iload_n 2, 1) := by decide +kernel
theorem dX5_duel_110 : decode cX5_duel 110 = .ok (.if_icmp .ge 88, 3) := by decide +kernel
theorem dX5_duel_113 : decode cX5_duel 113 = .ok (.aload_n 0, 1) := by decide +kernel
theorem dX5_duel_114 : decode cX5_duel 114 = .ok (.getfield 54, 3) := by decide +kernel
theorem dX5_duel_117 : decode cX5_duel 117 = .ok (.iload 5, 2) := by decide +kernel
theorem dX5_duel_119 : decode cX5_duel 119 = .ok (.iaload, 1) := by decide +kernel
theorem dX5_duel_120 : decode cX5_duel 120 = .ok (.istore 6, 2) := by decide +kernel
theorem dX5_duel_122 : decode cX5_duel 122 = .ok (.iconst 1, 1) := by decide +kernel
theorem dX5_duel_123 : decode cX5_duel 123 = .ok (.istore 7, 2) := by decide +kernel
theorem dX5_duel_125 : decode cX5_duel 125 = .ok (.iload 7, 2) := by decide +kernel
theorem dX5_duel_127 : decode cX5_duel 127 = .ok (.iload 4, 2) := by decide +kernel
theorem dX5_duel_129 : decode cX5_duel 129 = .ok (.if_icmp .ge 54, 3) := by decide +kernel
theorem dX5_duel_132 : decode cX5_duel 132 = .ok (.iload_n 3, 1) := by decide +kernel
theorem dX5_duel_133 : decode cX5_duel 133 = .ok (.iconst 2, 1) := by decide +kernel
theorem dX5_duel_134 : decode cX5_duel 134 = .ok (.irem, 1) := by decide +kernel
theorem dX5_duel_135 : decode cX5_duel 135 = .ok (.ifCond .ne 23, 3) := by decide +kernel
theorem dX5_duel_138 : decode cX5_duel 138 = .ok (.iload 6, 2) := by decide +kernel
theorem dX5_duel_140 : decode cX5_duel 140 = .ok (.aload_n 0, 1) := by decide +kernel
theorem dX5_duel_141 : decode cX5_duel 141 = .ok (.getfield 54, 3) := by decide +kernel
theorem dX5_duel_144 : decode cX5_duel 144 = .ok (.iload 5, 2) := by decide +kernel
theorem dX5_duel_146 : decode cX5_duel 146 = .ok (.iload 7, 2) := by decide +kernel
theorem dX5_duel_148 : decode cX5_duel 148 = .ok (.iload_n 2, 1) := by decide +kernel
theorem dX5_duel_149 : decode cX5_duel 149 = .ok (.imul, 1) := by decide +kernel
theorem dX5_duel_150 : decode cX5_duel 150 = .ok (.iadd, 1) := by decide +kernel
theorem dX5_duel_151 : decode cX5_duel 151 = .ok (.iaload, 1) := by decide +kernel
theorem dX5_duel_152 : decode cX5_duel 152 = .ok (.invokestatic 106, 3) := by decide +kernel
theorem dX5_duel_155 : decode cX5_duel 155 = .ok (.goto 20, 3) := by decide +kernel
theorem dX5_duel_158 : decode cX5_duel 158 = .ok (.iload 6, 2) := by decide +kernel
theorem dX5_duel_160 : decode cX5_duel 160 = .ok (.aload_n 0, 1) := by decide +kernel
theorem dX5_duel_161 : decode cX5_duel 161 = .ok (.getfield 54, 3) := by decide +kernel
theorem dX5_duel_164 : decode cX5_duel 164 = .ok (.iload 5, 2) := by decide +kernel
theorem dX5_duel_166 : decode cX5_duel 166 = .ok (.iload 7, 2) := by decide +kernel
theorem dX5_duel_168 : decode cX5_duel 168 = .ok (.iload_n 2, 1) := by decide +kernel
theorem dX5_duel_169 : decode cX5_duel 169 = .ok (.imul, 1) := by decide +kernel
theorem dX5_duel_170 : decode cX5_duel 170 = .ok (.iadd, 1) := by decide +kernel
theorem dX5_duel_171 : decode cX5_duel 171 = .ok (.iaload, 1) := by decide +kernel
theorem dX5_duel_172 : decode cX5_duel 172 = .ok (.invokestatic 103, 3) := by decide +kernel
theorem dX5_duel_175 : decode cX5_duel 175 = .ok (.istore 6, 2) := by decide +kernel
theorem dX5_duel_177 : decode cX5_duel 177 = .ok (.iinc 7 1, 3) := by decide +kernel
theorem dX5_duel_180 : decode cX5_duel 180 = .ok (.goto (-55), 3) := by decide +kernel
theorem dX5_duel_183 : decode cX5_duel 183 = .ok (.aload_n 0, 1) := by decide +kernel
theorem dX5_duel_184 : decode cX5_duel 184 = .ok (.getfield 54, 3) := by decide +kernel
theorem dX5_duel_187 : decode cX5_duel 187 = .ok (.iload 5, 2) := by decide +kernel
theorem dX5_duel_189 : decode cX5_duel 189 = .ok (.iload 6, 2) := by decide +kernel
theorem dX5_duel_191 : decode cX5_duel 191 = .ok (.iastore, 1) := by decide +kernel
theorem dX5_duel_192 : decode cX5_duel 192 = .ok (.iinc 5 1, 3) := by decide +kernel
theorem dX5_duel_195 : decode cX5_duel 195 = .ok (.goto (-88), 3) := by decide +kernel
theorem dX5_duel_198 : decode cX5_duel 198 = .ok (.iinc 3 (-1), 3) := by decide +kernel
theorem dX5_duel_201 : decode cX5_duel 201 = .ok (.goto (-119), 3) := by decide +kernel
theorem dX5_duel_204 : decode cX5_duel 204 = .ok (.aload_n 0, 1) := by decide +kernel
theorem dX5_duel_205 : decode cX5_duel 205 = .ok (.getfield 54, 3) := by decide +kernel
theorem dX5_duel_208 : decode cX5_duel 208 = .ok (.iconst 0, 1) := by decide +kernel
theorem dX5_duel_209 : decode cX5_duel 209 = .ok (.iaload, 1) := by decide +kernel
theorem dX5_duel_210 : decode cX5_duel 210 = .ok (.ireturn, 1) := by decide +kernel
theorem dX5_tells_0 : decode cX5_tells 0 = .ok (.lload_n 1, 1) := by decide +kernel
theorem dX5_tells_1 : decode cX5_tells 1 = .ok (.lstore 5, 2) := by decide +kernel
theorem dX5_tells_3 : decode cX5_tells 3 = .ok (.lload_n 3, 1) := by decide +kernel
theorem dX5_tells_4 : decode cX5_tells 4 = .ok (.lstore 7, 2) := by decide +kernel
theorem dX5_tells_6 : decode cX5_tells 6 = .ok (.lload 7, 2) := by decide +kernel
theorem dX5_tells_8 : decode cX5_tells 8 = .ok (.lconst 0, 1) := by decide +kernel
theorem dX5_tells_9 : decode cX5_tells 9 = .ok (.lcmp, 1) := by decide +kernel
theorem dX5_tells_10 : decode cX5_tells 10 = .ok (.ifCond .eq 21, 3) := by decide +kernel
theorem dX5_tells_13 : decode cX5_tells 13 = .ok (.lload 5, 2) := by decide +kernel
theorem dX5_tells_15 : decode cX5_tells 15 = .ok (.lload 7, 2) := by decide +kernel
theorem dX5_tells_17 : decode cX5_tells 17 = .ok (.lrem, 1) := by decide +kernel
theorem dX5_tells_18 : decode cX5_tells 18 = .ok (.lstore 9, 2) := by decide +kernel
theorem dX5_tells_20 : decode cX5_tells 20 = .ok (.lload 7, 2) := by decide +kernel
theorem dX5_tells_22 : decode cX5_tells 22 = .ok (.lstore 5, 2) := by decide +kernel
theorem dX5_tells_24 : decode cX5_tells 24 = .ok (.lload 9, 2) := by decide +kernel
theorem dX5_tells_26 : decode cX5_tells 26 = .ok (.lstore 7, 2) := by decide +kernel
theorem dX5_tells_28 : decode cX5_tells 28 = .ok (.goto (-22), 3) := by decide +kernel
theorem dX5_tells_31 : decode cX5_tells 31 = .ok (.aload_n 0, 1) := by decide +kernel
theorem dX5_tells_32 : decode cX5_tells 32 = .ok (.lload_n 1, 1) := by decide +kernel
theorem dX5_tells_33 : decode cX5_tells 33 = .ok (.lload 5, 2) := by decide +kernel
theorem dX5_tells_35 : decode cX5_tells 35 = .ok (.ldiv, 1) := by decide +kernel
theorem dX5_tells_36 : decode cX5_tells 36 = .ok (.putfield 193, 3) := by decide +kernel
theorem dX5_tells_39 : decode cX5_tells 39 = .ok (.aload_n 0, 1) := by decide +kernel
theorem dX5_tells_40 : decode cX5_tells 40 = .ok (.lload_n 3, 1) := by decide +kernel
theorem dX5_tells_41 : decode cX5_tells 41 = .ok (.lload 5, 2) := by decide +kernel
theorem dX5_tells_43 : decode cX5_tells 43 = .ok (.ldiv, 1) := by decide +kernel
theorem dX5_tells_44 : decode cX5_tells 44 = .ok (.putfield 47, 3) := by decide +kernel
theorem dX5_tells_47 : decode cX5_tells 47 = .ok (.return_, 1) := by decide +kernel
theorem dX5_weighs_0 : decode cX5_weighs 0 = .ok (.lconst 0, 1) := by decide +kernel
theorem dX5_weighs_1 : decode cX5_weighs 1 = .ok (.lstore_n 3, 1) := by decide +kernel
theorem dX5_weighs_2 : decode cX5_weighs 2 = .ok (.iconst 0, 1) := by decide +kernel
theorem dX5_weighs_3 : decode cX5_weighs 3 = .ok (.istore 5, 2) := by decide +kernel
theorem dX5_weighs_5 : decode cX5_weighs 5 = .ok (.iload 5, 2) := by decide +kernel
theorem dX5_weighs_7 : decode cX5_weighs 7 = .ok (.bipush 64, 2) := by decide +kernel
theorem dX5_weighs_9 : decode cX5_weighs 9 = .ok (.if_icmp .ge 107, 3) := by decide +kernel
theorem dX5_weighs_12 : decode cX5_weighs 12 = .ok (.aload_n 0, 1) := by decide +kernel
theorem dX5_weighs_13 : decode cX5_weighs 13 = .ok (.invokevirtual 164, 3) := by decide +kernel
theorem dX5_weighs_16 : decode cX5_weighs 16 = .ok (.lconst 1, 1) := by decide +kernel
theorem dX5_weighs_17 : decode cX5_weighs 17 = .ok (.lstore 6, 2) := by decide +kernel
theorem dX5_weighs_19 : decode cX5_weighs 19 = .ok (.iconst 0, 1) := by decide +kernel
theorem dX5_weighs_20 : decode cX5_weighs 20 = .ok (.istore 8, 2) := by decide +kernel
theorem dX5_weighs_22 : decode cX5_weighs 22 = .ok (.iconst 0, 1) := by decide +kernel
theorem dX5_weighs_23 : decode cX5_weighs 23 = .ok (.istore 9, 2) := by decide +kernel
theorem dX5_weighs_25 : decode cX5_weighs 25 = .ok (.iload 9, 2) := by decide +kernel
theorem dX5_weighs_27 : decode cX5_weighs 27 = .ok (.bipush 6, 2) := by decide +kernel
theorem dX5_weighs_29 : decode cX5_weighs 29 = .ok (.if_icmp .ge 53, 3) := by decide +kernel
theorem dX5_weighs_32 : decode cX5_weighs 32 = .ok (.lload 6, 2) := by decide +kernel
theorem dX5_weighs_34 : decode cX5_weighs 34 = .ok (.iload 5, 2) := by decide +kernel
theorem dX5_weighs_36 : decode cX5_weighs 36 = .ok (.iload 9, 2) := by decide +kernel
theorem dX5_weighs_38 : decode cX5_weighs 38 = .ok (.invokestatic 109, 3) := by decide +kernel
theorem dX5_weighs_41 : decode cX5_weighs 41 = .ok (.ifCond .eq 8, 3) := by decide +kernel
theorem dX5_weighs_44 : decode cX5_weighs 44 = .ok (.iload_n 2, 1) := by decide +kernel
theorem dX5_weighs_45 : decode cX5_weighs 45 = .ok (.i2l, 1) := by decide +kernel
theorem dX5_weighs_46 : decode cX5_weighs 46 = .ok (.goto 8, 3) := by decide +kernel
theorem dX5_weighs_49 : decode cX5_weighs 49 = .ok (.bipush 12, 2) := by decide +kernel
theorem dX5_weighs_51 : decode cX5_weighs 51 = .ok (.iload_n 2, 1) := by decide +kernel
theorem dX5_weighs_52 : decode cX5_weighs 52 = .ok (.isub, 1) := by decide +kernel
theorem dX5_weighs_53 : decode cX5_weighs 53 = .ok (.i2l, 1) := by decide +kernel
theorem dX5_weighs_54 : decode cX5_weighs 54 = .ok (.lmul, 1) := by decide +kernel
theorem dX5_weighs_55 : decode cX5_weighs 55 = .ok (.lstore 6, 2) := by decide +kernel
theorem dX5_weighs_57 : decode cX5_weighs 57 = .ok (.iload 8, 2) := by decide +kernel
theorem dX5_weighs_59 : decode cX5_weighs 59 = .ok (.aload_n 0, 1) := by decide +kernel
theorem dX5_weighs_60 : decode cX5_weighs 60 = .ok (.sipush 984, 3) := by decide +kernel
theorem dX5_weighs_63 : decode cX5_weighs 63 = .ok (.iload 5, 2) := by decide +kernel
theorem dX5_weighs_65 : decode cX5_weighs 65 = .ok (.iload 9, 2) := by decide +kernel
theorem dX5_weighs_67 : decode cX5_weighs 67 = .ok (.invokestatic 109, 3) := by decide +kernel
theorem dX5_weighs_70 : decode cX5_weighs 70 = .ok (.invokevirtual 156, 3) := by decide +kernel
theorem dX5_weighs_73 : decode cX5_weighs 73 = .ok (.iadd, 1) := by decide +kernel
theorem dX5_weighs_74 : decode cX5_weighs 74 = .ok (.istore 8, 2) := by decide +kernel
theorem dX5_weighs_76 : decode cX5_weighs 76 = .ok (.iinc 9 1, 3) := by decide +kernel
theorem dX5_weighs_79 : decode cX5_weighs 79 = .ok (.goto (-54), 3) := by decide +kernel
theorem dX5_weighs_82 : decode cX5_weighs 82 = .ok (.lload_n 3, 1) := by decide +kernel
theorem dX5_weighs_83 : decode cX5_weighs 83 = .ok (.iload_n 1, 1) := by decide +kernel
theorem dX5_weighs_84 : decode cX5_weighs 84 = .ok (.ifCond .ge 12, 3) := by decide +kernel
theorem dX5_weighs_87 : decode cX5_weighs 87 = .ok (.lload 6, 2) := by decide +kernel
theorem dX5_weighs_89 : decode cX5_weighs 89 = .ok (.iload 8, 2) := by decide +kernel
theorem dX5_weighs_91 : decode cX5_weighs 91 = .ok (.i2l, 1) := by decide +kernel
theorem dX5_weighs_92 : decode cX5_weighs 92 = .ok (.lmul, 1) := by decide +kernel
theorem dX5_weighs_93 : decode cX5_weighs 93 = .ok (.goto 15, 3) := by decide +kernel
theorem dX5_weighs_96 : decode cX5_weighs 96 = .ok (.iload 8, 2) := by decide +kernel
theorem dX5_weighs_98 : decode cX5_weighs 98 = .ok (.iload_n 1, 1) := by decide +kernel
theorem dX5_weighs_99 : decode cX5_weighs 99 = .ok (.if_icmp .lt 8, 3) := by decide +kernel
theorem dX5_weighs_102 : decode cX5_weighs 102 = .ok (.lload 6, 2) := by decide +kernel
theorem dX5_weighs_104 : decode cX5_weighs 104 = .ok (.goto 4, 3) := by decide +kernel
theorem dX5_weighs_107 : decode cX5_weighs 107 = .ok (.lconst 0, 1) := by decide +kernel
theorem dX5_weighs_108 : decode cX5_weighs 108 = .ok (.ladd, 1) := by decide +kernel
theorem dX5_weighs_109 : decode cX5_weighs 109 = .ok (.lstore_n 3, 1) := by decide +kernel
theorem dX5_weighs_110 : decode cX5_weighs 110 = .ok (.iinc 5 1, 3) := by decide +kernel
theorem dX5_weighs_113 : decode cX5_weighs 113 = .ok (.goto (-108), 3) := by decide +kernel
theorem dX5_weighs_116 : decode cX5_weighs 116 = .ok (.lload_n 3, 1) := by decide +kernel
theorem dX5_weighs_117 : decode cX5_weighs 117 = .ok (.lreturn, 1) := by decide +kernel
theorem dX5_odds_0 : decode cX5_odds 0 = .ok (.iload_n 1, 1) := by decide +kernel
theorem dX5_odds_1 : decode cX5_odds 1 = .ok (.i2l, 1) := by decide +kernel
theorem dX5_odds_2 : decode cX5_odds 2 = .ok (.lconst 0, 1) := by decide +kernel
theorem dX5_odds_3 : decode cX5_odds 3 = .ok (.ldc2_w 174, 3) := by decide +kernel
theorem dX5_odds_6 : decode cX5_odds 6 = .ok (.invokestatic 63, 3) := by decide +kernel
theorem dX5_odds_9 : decode cX5_odds 9 = .ok (.ifCond .eq 15, 3) := by decide +kernel
theorem dX5_odds_12 : decode cX5_odds 12 = .ok (.iload_n 2, 1) := by decide +kernel
theorem dX5_odds_13 : decode cX5_odds 13 = .ok (.i2l, 1) := by decide +kernel
theorem dX5_odds_14 : decode cX5_odds 14 = .ok (.lconst 0, 1) := by decide +kernel
theorem dX5_odds_15 : decode cX5_odds 15 = .ok (.ldc2_w 196, 3) := by decide +kernel
theorem dX5_odds_18 : decode cX5_odds 18 = .ok (.invokestatic 63, 3) := by decide +kernel
theorem dX5_odds_21 : decode cX5_odds 21 = .ok (.ifCond .ne 5, 3) := by decide +kernel
theorem dX5_odds_24 : decode cX5_odds 24 = .ok (.iconst (-1), 1) := by decide +kernel
theorem dX5_odds_25 : decode cX5_odds 25 = .ok (.ireturn, 1) := by decide +kernel
theorem dX5_odds_26 : decode cX5_odds 26 = .ok (.aload_n 0, 1) := by decide +kernel
theorem dX5_odds_27 : decode cX5_odds 27 = .ok (.getfield 97, 3) := by decide +kernel
theorem dX5_odds_30 : decode cX5_odds 30 = .ok (.ifCond .ne 6, 3) := by decide +kernel
theorem dX5_odds_33 : decode cX5_odds 33 = .ok (.bipush (-4), 2) := by decide +kernel
theorem dX5_odds_35 : decode cX5_odds 35 = .ok (.ireturn, 1) := by decide +kernel
theorem dX5_odds_36 : decode cX5_odds 36 = .ok (.aload_n 0, 1) := by decide +kernel
theorem dX5_odds_37 : decode cX5_odds 37 = .ok (.aload_n 0, 1) := by decide +kernel
theorem dX5_odds_38 : decode cX5_odds 38 = .ok (.iload_n 1, 1) := by decide +kernel
theorem dX5_odds_39 : decode cX5_odds 39 = .ok (.iload_n 2, 1) := by decide +kernel
theorem dX5_odds_40 : decode cX5_odds 40 = .ok (.invokevirtual 198, 3) := by decide +kernel
theorem dX5_odds_43 : decode cX5_odds 43 = .ok (.ldc2_w 202, 3) := by decide +kernel
theorem dX5_odds_46 : decode cX5_odds 46 = .ok (.invokevirtual 204, 3) := by decide +kernel
theorem dX5_odds_49 : decode cX5_odds 49 = .ok (.iconst 1, 1) := by decide +kernel
theorem dX5_odds_50 : decode cX5_odds 50 = .ok (.ireturn, 1) := by decide +kernel
theorem dX5_mid_0 : decode cX5_mid 0 = .ok (.iload_n 1, 1) := by decide +kernel
theorem dX5_mid_1 : decode cX5_mid 1 = .ok (.i2l, 1) := by decide +kernel
theorem dX5_mid_2 : decode cX5_mid 2 = .ok (.lconst 0, 1) := by decide +kernel
theorem dX5_mid_3 : decode cX5_mid 3 = .ok (.ldc2_w 196, 3) := by decide +kernel
theorem dX5_mid_6 : decode cX5_mid 6 = .ok (.invokestatic 63, 3) := by decide +kernel
theorem dX5_mid_9 : decode cX5_mid 9 = .ok (.ifCond .ne 5, 3) := by decide +kernel
theorem dX5_mid_12 : decode cX5_mid 12 = .ok (.iconst (-1), 1) := by decide +kernel
theorem dX5_mid_13 : decode cX5_mid 13 = .ok (.ireturn, 1) := by decide +kernel
theorem dX5_mid_14 : decode cX5_mid 14 = .ok (.aload_n 0, 1) := by decide +kernel
theorem dX5_mid_15 : decode cX5_mid 15 = .ok (.getfield 97, 3) := by decide +kernel
theorem dX5_mid_18 : decode cX5_mid 18 = .ok (.ifCond .ne 6, 3) := by decide +kernel
theorem dX5_mid_21 : decode cX5_mid 21 = .ok (.bipush (-4), 2) := by decide +kernel
theorem dX5_mid_23 : decode cX5_mid 23 = .ok (.ireturn, 1) := by decide +kernel
theorem dX5_mid_24 : decode cX5_mid 24 = .ok (.aload_n 0, 1) := by decide +kernel
theorem dX5_mid_25 : decode cX5_mid 25 = .ok (.aload_n 0, 1) := by decide +kernel
theorem dX5_mid_26 : decode cX5_mid 26 = .ok (.iconst (-1), 1) := by decide +kernel
theorem dX5_mid_27 : decode cX5_mid 27 = .ok (.iload_n 1, 1) := by decide +kernel
theorem dX5_mid_28 : decode cX5_mid 28 = .ok (.invokevirtual 198, 3) := by decide +kernel
theorem dX5_mid_31 : decode cX5_mid 31 = .ok (.ldc2_w 202, 3) := by decide +kernel
theorem dX5_mid_34 : decode cX5_mid 34 = .ok (.invokevirtual 204, 3) := by decide +kernel
theorem dX5_mid_37 : decode cX5_mid 37 = .ok (.iconst 1, 1) := by decide +kernel
theorem dX5_mid_38 : decode cX5_mid 38 = .ok (.ireturn, 1) := by decide +kernel
theorem dX5_lots_0 : decode cX5_lots 0 = .ok (.iload_n 1, 1) := by decide +kernel
theorem dX5_lots_1 : decode cX5_lots 1 = .ok (.i2l, 1) := by decide +kernel
theorem dX5_lots_2 : decode cX5_lots 2 = .ok (.lconst 1, 1) := by decide +kernel
theorem dX5_lots_3 : decode cX5_lots 3 = .ok (.ldc2_w 170, 3) := by decide +kernel
theorem dX5_lots_6 : decode cX5_lots 6 = .ok (.invokestatic 63, 3) := by decide +kernel
theorem dX5_lots_9 : decode cX5_lots 9 = .ok (.ifCond .eq 15, 3) := by decide +kernel
theorem dX5_lots_12 : decode cX5_lots 12 = .ok (.iload_n 2, 1) := by decide +kernel
theorem dX5_lots_13 : decode cX5_lots 13 = .ok (.i2l, 1) := by decide +kernel
theorem dX5_lots_14 : decode cX5_lots 14 = .ok (.lconst 1, 1) := by decide +kernel
theorem dX5_lots_15 : decode cX5_lots 15 = .ok (.ldc2_w 208, 3) := by decide +kernel
theorem dX5_lots_18 : decode cX5_lots 18 = .ok (.invokestatic 63, 3) := by decide +kernel
theorem dX5_lots_21 : decode cX5_lots 21 = .ok (.ifCond .ne 5, 3) := by decide +kernel
theorem dX5_lots_24 : decode cX5_lots 24 = .ok (.iconst (-1), 1) := by decide +kernel
theorem dX5_lots_25 : decode cX5_lots 25 = .ok (.ireturn, 1) := by decide +kernel
theorem dX5_lots_26 : decode cX5_lots 26 = .ok (.aload_n 0, 1) := by decide +kernel
theorem dX5_lots_27 : decode cX5_lots 27 = .ok (.getfield 97, 3) := by decide +kernel
theorem dX5_lots_30 : decode cX5_lots 30 = .ok (.ifCond .ne 6, 3) := by decide +kernel
theorem dX5_lots_33 : decode cX5_lots 33 = .ok (.bipush (-4), 2) := by decide +kernel
theorem dX5_lots_35 : decode cX5_lots 35 = .ok (.ireturn, 1) := by decide +kernel
theorem dX5_lots_36 : decode cX5_lots 36 = .ok (.aload_n 0, 1) := by decide +kernel
theorem dX5_lots_37 : decode cX5_lots 37 = .ok (.getfield 100, 3) := by decide +kernel
theorem dX5_lots_40 : decode cX5_lots 40 = .ok (.iload_n 1, 1) := by decide +kernel
theorem dX5_lots_41 : decode cX5_lots 41 = .ok (.iadd, 1) := by decide +kernel
theorem dX5_lots_42 : decode cX5_lots 42 = .ok (.bipush 40, 2) := by decide +kernel
theorem dX5_lots_44 : decode cX5_lots 44 = .ok (.if_icmp .le 6, 3) := by decide +kernel
theorem dX5_lots_47 : decode cX5_lots 47 = .ok (.bipush (-2), 2) := by decide +kernel
theorem dX5_lots_49 : decode cX5_lots 49 = .ok (.ireturn, 1) := by decide +kernel
theorem dX5_lots_50 : decode cX5_lots 50 = .ok (.iload_n 2, 1) := by decide +kernel
theorem dX5_lots_51 : decode cX5_lots 51 = .ok (.i2l, 1) := by decide +kernel
theorem dX5_lots_52 : decode cX5_lots 52 = .ok (.lstore_n 3, 1) := by decide +kernel
theorem dX5_lots_53 : decode cX5_lots 53 = .ok (.iconst 0, 1) := by decide +kernel
theorem dX5_lots_54 : decode cX5_lots 54 = .ok (.istore 5, 2) := by decide +kernel
theorem dX5_lots_56 : decode cX5_lots 56 = .ok (.iload 5, 2) := by decide +kernel
theorem dX5_lots_58 : decode cX5_lots 58 = .ok (.iload_n 1, 1) := by decide +kernel
theorem dX5_lots_59 : decode cX5_lots 59 = .ok (.if_icmp .ge 91, 3) := by decide +kernel
theorem dX5_lots_62 : decode cX5_lots 62 = .ok (.lload_n 3, 1) := by decide +kernel
theorem dX5_lots_63 : decode cX5_lots 63 = .ok (.ldc2_w 210, 3) := by decide +kernel
theorem dX5_lots_66 : decode cX5_lots 66 = .ok (.lmul, 1) := by decide +kernel
theorem dX5_lots_67 : decode cX5_lots 67 = .ok (.ldc2_w 212, 3) := by decide +kernel
theorem dX5_lots_70 : decode cX5_lots 70 = .ok (.lrem, 1) := by decide +kernel
theorem dX5_lots_71 : decode cX5_lots 71 = .ok (.lstore_n 3, 1) := by decide +kernel
theorem dX5_lots_72 : decode cX5_lots 72 = .ok (.aload_n 0, 1) := by decide +kernel
theorem dX5_lots_73 : decode cX5_lots 73 = .ok (.invokevirtual 153, 3) := by decide +kernel
theorem dX5_lots_76 : decode cX5_lots 76 = .ok (.istore 6, 2) := by decide +kernel
theorem dX5_lots_78 : decode cX5_lots 78 = .ok (.lload_n 3, 1) := by decide +kernel
theorem dX5_lots_79 : decode cX5_lots 79 = .ok (.ldc2_w 188, 3) := by decide +kernel
theorem dX5_lots_82 : decode cX5_lots 82 = .ok (.lrem, 1) := by decide +kernel
theorem dX5_lots_83 : decode cX5_lots 83 = .ok (.lconst 0, 1) := by decide +kernel
theorem dX5_lots_84 : decode cX5_lots 84 = .ok (.lcmp, 1) := by decide +kernel
theorem dX5_lots_85 : decode cX5_lots 85 = .ok (.ifCond .ne 16, 3) := by decide +kernel
theorem dX5_lots_88 : decode cX5_lots 88 = .ok (.aload_n 0, 1) := by decide +kernel
theorem dX5_lots_89 : decode cX5_lots 89 = .ok (.getfield 41, 3) := by decide +kernel
theorem dX5_lots_92 : decode cX5_lots 92 = .ok (.iload 6, 2) := by decide +kernel
theorem dX5_lots_94 : decode cX5_lots 94 = .ok (.iconst 2, 1) := by decide +kernel
theorem dX5_lots_95 : decode cX5_lots 95 = .ok (.iadd, 1) := by decide +kernel
theorem dX5_lots_96 : decode cX5_lots 96 = .ok (.iconst 0, 1) := by decide +kernel
theorem dX5_lots_97 : decode cX5_lots 97 = .ok (.iastore, 1) := by decide +kernel
theorem dX5_lots_98 : decode cX5_lots 98 = .ok (.goto 46, 3) := by decide +kernel
theorem dX5_lots_101 : decode cX5_lots 101 = .ok (.lload_n 3, 1) := by decide +kernel
theorem dX5_lots_102 : decode cX5_lots 102 = .ok (.ldc2_w 188, 3) := by decide +kernel
theorem dX5_lots_105 : decode cX5_lots 105 = .ok (.lrem, 1) := by decide +kernel
theorem dX5_lots_106 : decode cX5_lots 106 = .ok (.lconst 1, 1) := by decide +kernel
theorem dX5_lots_107 : decode cX5_lots 107 = .ok (.lcmp, 1) := by decide +kernel
theorem dX5_lots_108 : decode cX5_lots 108 = .ok (.ifCond .ne 25, 3) := by decide +kernel
theorem dX5_lots_111 : decode cX5_lots 111 = .ok (.aload_n 0, 1) := by decide +kernel
theorem dX5_lots_112 : decode cX5_lots 112 = .ok (.getfield 41, 3) := by decide +kernel
theorem dX5_lots_115 : decode cX5_lots 115 = .ok (.iload 6, 2) := by decide +kernel
theorem dX5_lots_117 : decode cX5_lots 117 = .ok (.iconst 1, 1) := by decide +kernel
theorem dX5_lots_118 : decode cX5_lots 118 = .ok (.iadd, 1) := by decide +kernel
theorem dX5_lots_119 : decode cX5_lots 119 = .ok (.lload_n 3, 1) := by decide +kernel
theorem dX5_lots_120 : decode cX5_lots 120 = .ok (.ldc2_w 172, 3) := by decide +kernel
theorem dX5_lots_123 : decode cX5_lots 123 = .ok (.ldiv, 1) := by decide +kernel
theorem dX5_lots_124 : decode cX5_lots 124 = .ok (.ldc2_w 61, 3) := by decide +kernel
theorem dX5_lots_127 : decode cX5_lots 127 = .ok (.lrem, 1) := by decide +kernel
theorem dX5_lots_128 : decode cX5_lots 128 = .ok (.l2i, 1) := by decide +kernel
theorem dX5_lots_129 : decode cX5_lots 129 = .ok (.iastore, 1) := by decide +kernel
theorem dX5_lots_130 : decode cX5_lots 130 = .ok (.goto 14, 3) := by decide +kernel
theorem dX5_lots_133 : decode cX5_lots 133 = .ok (.aload_n 0, 1) := by decide +kernel
theorem dX5_lots_134 : decode cX5_lots 134 = .ok (.aload_n 0, 1) := by decide +kernel
theorem dX5_lots_135 : decode cX5_lots 135 = .ok (.iload 6, 2) := by decide +kernel
theorem dX5_lots_137 : decode cX5_lots 137 = .ok (.iconst 0, 1) := by decide +kernel
theorem dX5_lots_138 : decode cX5_lots 138 = .ok (.invokevirtual 156, 3) := by decide +kernel
theorem dX5_lots_141 : decode cX5_lots 141 = .ok (.putfield 147, 3) := by decide +kernel
theorem dX5_lots_144 : decode cX5_lots 144 = .ok (.iinc 5 1, 3) := by decide +kernel
theorem dX5_lots_147 : decode cX5_lots 147 = .ok (.goto (-91), 3) := by decide +kernel
theorem dX5_lots_150 : decode cX5_lots 150 = .ok (.aload_n 0, 1) := by decide +kernel
theorem dX5_lots_151 : decode cX5_lots 151 = .ok (.getfield 41, 3) := by decide +kernel
theorem dX5_lots_154 : decode cX5_lots 154 = .ok (.aload_n 0, 1) := by decide +kernel
theorem dX5_lots_155 : decode cX5_lots 155 = .ok (.invokevirtual 123, 3) := by decide +kernel
theorem dX5_lots_158 : decode cX5_lots 158 = .ok (.iconst 3, 1) := by decide +kernel
theorem dX5_lots_159 : decode cX5_lots 159 = .ok (.iadd, 1) := by decide +kernel
theorem dX5_lots_160 : decode cX5_lots 160 = .ok (.iaload, 1) := by decide +kernel
theorem dX5_lots_161 : decode cX5_lots 161 = .ok (.ireturn, 1) := by decide +kernel
theorem dX5_asked_0 : decode cX5_asked 0 = .ok (.aload_n 0, 1) := by decide +kernel
theorem dX5_asked_1 : decode cX5_asked 1 = .ok (.getfield 75, 3) := by decide +kernel
theorem dX5_asked_4 : decode cX5_asked 4 = .ok (.ireturn, 1) := by decide +kernel
theorem dX5_upper_0 : decode cX5_upper 0 = .ok (.aload_n 0, 1) := by decide +kernel
theorem dX5_upper_1 : decode cX5_upper 1 = .ok (.getfield 193, 3) := by decide +kernel
theorem dX5_upper_4 : decode cX5_upper 4 = .ok (.lreturn, 1) := by decide +kernel
theorem dX5_lower_0 : decode cX5_lower 0 = .ok (.aload_n 0, 1) := by decide +kernel
theorem dX5_lower_1 : decode cX5_lower 1 = .ok (.getfield 47, 3) := by decide +kernel
theorem dX5_lower_4 : decode cX5_lower 4 = .ok (.lreturn, 1) := by decide +kernel
theorem dX5_manyOf_0 : decode cX5_manyOf 0 = .ok (.iconst 0, 1) := by decide +kernel
theorem dX5_manyOf_1 : decode cX5_manyOf 1 = .ok (.istore_n 2, 1) := by decide +kernel
theorem dX5_manyOf_2 : decode cX5_manyOf 2 = .ok (.iconst 0, 1) := by decide +kernel
theorem dX5_manyOf_3 : decode cX5_manyOf 3 = .ok (.istore_n 3, 1) := by decide +kernel
theorem dX5_manyOf_4 : decode cX5_manyOf 4 = .ok (.iload_n 3, 1) := by decide +kernel
theorem dX5_manyOf_5 : decode cX5_manyOf 5 = .ok (.bipush 9, 2) := by decide +kernel
theorem dX5_manyOf_7 : decode cX5_manyOf 7 = .ok (.if_icmp .ge 157, 3) := by decide +kernel
theorem dX5_manyOf_10 : decode cX5_manyOf 10 = .ok (.iload_n 2, 1) := by decide +kernel
theorem dX5_manyOf_11 : decode cX5_manyOf 11 = .ok (.iload_n 1, 1) := by decide +kernel
theorem dX5_manyOf_12 : decode cX5_manyOf 12 = .ok (.ifCond .ne 25, 3) := by decide +kernel
theorem dX5_manyOf_15 : decode cX5_manyOf 15 = .ok (.iload_n 3, 1) := by decide +kernel
theorem dX5_manyOf_16 : decode cX5_manyOf 16 = .ok (.bipush 6, 2) := by decide +kernel
theorem dX5_manyOf_18 : decode cX5_manyOf 18 = .ok (.if_icmp .ge 19, 3) := by decide +kernel
theorem dX5_manyOf_21 : decode cX5_manyOf 21 = .ok (.aload_n 0, 1) := by decide +kernel
theorem dX5_manyOf_22 : decode cX5_manyOf 22 = .ok (.getfield 7, 3) := by decide +kernel
theorem dX5_manyOf_25 : decode cX5_manyOf 25 = .ok (.iload_n 3, 1) := by decide +kernel
theorem dX5_manyOf_26 : decode cX5_manyOf 26 = .ok (.bipush 6, 2) := by decide +kernel
theorem dX5_manyOf_28 : decode cX5_manyOf 28 = .ok (.irem, 1) := by decide +kernel
theorem dX5_manyOf_29 : decode cX5_manyOf 29 = .ok (.iaload, 1) := by decide +kernel
theorem dX5_manyOf_30 : decode cX5_manyOf 30 = .ok (.ifCond .lt 7, 3) := by decide +kernel
theorem dX5_manyOf_33 : decode cX5_manyOf 33 = .ok (.iconst 1, 1) := by decide +kernel
theorem dX5_manyOf_34 : decode cX5_manyOf 34 = .ok (.goto 4, 3) := by decide +kernel
theorem dX5_manyOf_37 : decode cX5_manyOf 37 = .ok (.iconst 0, 1) := by decide +kernel
theorem dX5_manyOf_38 : decode cX5_manyOf 38 = .ok (.iadd, 1) := by decide +kernel
theorem dX5_manyOf_39 : decode cX5_manyOf 39 = .ok (.istore_n 2, 1) := by decide +kernel
theorem dX5_manyOf_40 : decode cX5_manyOf 40 = .ok (.iload_n 2, 1) := by decide +kernel
theorem dX5_manyOf_41 : decode cX5_manyOf 41 = .ok (.iload_n 1, 1) := by decide +kernel
theorem dX5_manyOf_42 : decode cX5_manyOf 42 = .ok (.iconst 1, 1) := by decide +kernel
theorem dX5_manyOf_43 : decode cX5_manyOf 43 = .ok (.if_icmp .ne 23, 3) := by decide +kernel
theorem dX5_manyOf_46 : decode cX5_manyOf 46 = .ok (.iload_n 3, 1) := by decide +kernel
theorem dX5_manyOf_47 : decode cX5_manyOf 47 = .ok (.iconst 4, 1) := by decide +kernel
theorem dX5_manyOf_48 : decode cX5_manyOf 48 = .ok (.if_icmp .ge 18, 3) := by decide +kernel
theorem dX5_manyOf_51 : decode cX5_manyOf 51 = .ok (.aload_n 0, 1) := by decide +kernel
theorem dX5_manyOf_52 : decode cX5_manyOf 52 = .ok (.getfield 16, 3) := by decide +kernel
theorem dX5_manyOf_55 : decode cX5_manyOf 55 = .ok (.iload_n 3, 1) := by decide +kernel
theorem dX5_manyOf_56 : decode cX5_manyOf 56 = .ok (.iconst 4, 1) := by decide +kernel
theorem dX5_manyOf_57 : decode cX5_manyOf 57 = .ok (.irem, 1) := by decide +kernel
theorem dX5_manyOf_58 : decode cX5_manyOf 58 = .ok (.iaload, 1) := by decide +kernel
theorem dX5_manyOf_59 : decode cX5_manyOf 59 = .ok (.ifCond .lt 7, 3) := by decide +kernel
theorem dX5_manyOf_62 : decode cX5_manyOf 62 = .ok (.iconst 1, 1) := by decide +kernel
theorem dX5_manyOf_63 : decode cX5_manyOf 63 = .ok (.goto 4, 3) := by decide +kernel
theorem dX5_manyOf_66 : decode cX5_manyOf 66 = .ok (.iconst 0, 1) := by decide +kernel
theorem dX5_manyOf_67 : decode cX5_manyOf 67 = .ok (.iadd, 1) := by decide +kernel
theorem dX5_manyOf_68 : decode cX5_manyOf 68 = .ok (.istore_n 2, 1) := by decide +kernel
theorem dX5_manyOf_69 : decode cX5_manyOf 69 = .ok (.iload_n 2, 1) := by decide +kernel
theorem dX5_manyOf_70 : decode cX5_manyOf 70 = .ok (.iload_n 1, 1) := by decide +kernel
theorem dX5_manyOf_71 : decode cX5_manyOf 71 = .ok (.iconst 2, 1) := by decide +kernel
theorem dX5_manyOf_72 : decode cX5_manyOf 72 = .ok (.if_icmp .ne 23, 3) := by decide +kernel
theorem dX5_manyOf_75 : decode cX5_manyOf 75 = .ok (.iload_n 3, 1) := by decide +kernel
theorem dX5_manyOf_76 : decode cX5_manyOf 76 = .ok (.iconst 3, 1) := by decide +kernel
theorem dX5_manyOf_77 : decode cX5_manyOf 77 = .ok (.if_icmp .ge 18, 3) := by decide +kernel
theorem dX5_manyOf_80 : decode cX5_manyOf 80 = .ok (.aload_n 0, 1) := by decide +kernel
theorem dX5_manyOf_81 : decode cX5_manyOf 81 = .ok (.getfield 44, 3) := by decide +kernel
theorem dX5_manyOf_84 : decode cX5_manyOf 84 = .ok (.iload_n 3, 1) := by decide +kernel
theorem dX5_manyOf_85 : decode cX5_manyOf 85 = .ok (.iconst 3, 1) := by decide +kernel
theorem dX5_manyOf_86 : decode cX5_manyOf 86 = .ok (.irem, 1) := by decide +kernel
theorem dX5_manyOf_87 : decode cX5_manyOf 87 = .ok (.iaload, 1) := by decide +kernel
theorem dX5_manyOf_88 : decode cX5_manyOf 88 = .ok (.ifCond .lt 7, 3) := by decide +kernel
theorem dX5_manyOf_91 : decode cX5_manyOf 91 = .ok (.iconst 1, 1) := by decide +kernel
theorem dX5_manyOf_92 : decode cX5_manyOf 92 = .ok (.goto 4, 3) := by decide +kernel
theorem dX5_manyOf_95 : decode cX5_manyOf 95 = .ok (.iconst 0, 1) := by decide +kernel
theorem dX5_manyOf_96 : decode cX5_manyOf 96 = .ok (.iadd, 1) := by decide +kernel
theorem dX5_manyOf_97 : decode cX5_manyOf 97 = .ok (.istore_n 2, 1) := by decide +kernel
theorem dX5_manyOf_98 : decode cX5_manyOf 98 = .ok (.iload_n 2, 1) := by decide +kernel
theorem dX5_manyOf_99 : decode cX5_manyOf 99 = .ok (.iload_n 1, 1) := by decide +kernel
theorem dX5_manyOf_100 : decode cX5_manyOf 100 = .ok (.iconst 3, 1) := by decide +kernel
theorem dX5_manyOf_101 : decode cX5_manyOf 101 = .ok (.if_icmp .ne 24, 3) := by decide +kernel
theorem dX5_manyOf_104 : decode cX5_manyOf 104 = .ok (.iload_n 3, 1) := by decide +kernel
theorem dX5_manyOf_105 : decode cX5_manyOf 105 = .ok (.aload_n 0, 1) := by decide +kernel
theorem dX5_manyOf_106 : decode cX5_manyOf 106 = .ok (.getfield 97, 3) := by decide +kernel
theorem dX5_manyOf_109 : decode cX5_manyOf 109 = .ok (.if_icmp .ge 16, 3) := by decide +kernel
theorem dX5_manyOf_112 : decode cX5_manyOf 112 = .ok (.aload_n 0, 1) := by decide +kernel
theorem dX5_manyOf_113 : decode cX5_manyOf 113 = .ok (.getfield 23, 3) := by decide +kernel
theorem dX5_manyOf_116 : decode cX5_manyOf 116 = .ok (.iload_n 3, 1) := by decide +kernel
theorem dX5_manyOf_117 : decode cX5_manyOf 117 = .ok (.iaload, 1) := by decide +kernel
theorem dX5_manyOf_118 : decode cX5_manyOf 118 = .ok (.iconst 1, 1) := by decide +kernel
theorem dX5_manyOf_119 : decode cX5_manyOf 119 = .ok (.invokestatic 140, 3) := by decide +kernel
theorem dX5_manyOf_122 : decode cX5_manyOf 122 = .ok (.ifCond .ne 29, 3) := by decide +kernel
theorem dX5_manyOf_125 : decode cX5_manyOf 125 = .ok (.iload_n 1, 1) := by decide +kernel
theorem dX5_manyOf_126 : decode cX5_manyOf 126 = .ok (.iconst 4, 1) := by decide +kernel
theorem dX5_manyOf_127 : decode cX5_manyOf 127 = .ok (.if_icmp .ne 28, 3) := by decide +kernel
theorem dX5_manyOf_130 : decode cX5_manyOf 130 = .ok (.iload_n 3, 1) := by decide +kernel
theorem dX5_manyOf_131 : decode cX5_manyOf 131 = .ok (.aload_n 0, 1) := by decide +kernel
theorem dX5_manyOf_132 : decode cX5_manyOf 132 = .ok (.getfield 97, 3) := by decide +kernel
theorem dX5_manyOf_135 : decode cX5_manyOf 135 = .ok (.if_icmp .ge 20, 3) := by decide +kernel
theorem dX5_manyOf_138 : decode cX5_manyOf 138 = .ok (.aload_n 0, 1) := by decide +kernel
theorem dX5_manyOf_139 : decode cX5_manyOf 139 = .ok (.getfield 23, 3) := by decide +kernel
theorem dX5_manyOf_142 : decode cX5_manyOf 142 = .ok (.iload_n 3, 1) := by decide +kernel
theorem dX5_manyOf_143 : decode cX5_manyOf 143 = .ok (.iaload, 1) := by decide +kernel
theorem dX5_manyOf_144 : decode cX5_manyOf 144 = .ok (.iconst 3, 1) := by decide +kernel
theorem dX5_manyOf_145 : decode cX5_manyOf 145 = .ok (.invokestatic 140, 3) := by decide +kernel
theorem dX5_manyOf_148 : decode cX5_manyOf 148 = .ok (.ifCond .eq 7, 3) := by decide +kernel
theorem dX5_manyOf_151 : decode cX5_manyOf 151 = .ok (.iconst 1, 1) := by decide +kernel
theorem dX5_manyOf_152 : decode cX5_manyOf 152 = .ok (.goto 4, 3) := by decide +kernel
theorem dX5_manyOf_155 : decode cX5_manyOf 155 = .ok (.iconst 0, 1) := by decide +kernel
theorem dX5_manyOf_156 : decode cX5_manyOf 156 = .ok (.iadd, 1) := by decide +kernel
theorem dX5_manyOf_157 : decode cX5_manyOf 157 = .ok (.istore_n 2, 1) := by decide +kernel
theorem dX5_manyOf_158 : decode cX5_manyOf 158 = .ok (.iinc 3 1, 3) := by decide +kernel
theorem dX5_manyOf_161 : decode cX5_manyOf 161 = .ok (.goto (-157), 3) := by decide +kernel
theorem dX5_manyOf_164 : decode cX5_manyOf 164 = .ok (.iload_n 2, 1) := by decide +kernel
theorem dX5_manyOf_165 : decode cX5_manyOf 165 = .ok (.ireturn, 1) := by decide +kernel
theorem dX5_count_0 : decode cX5_count 0 = .ok (.iload_n 1, 1) := by decide +kernel
theorem dX5_count_1 : decode cX5_count 1 = .ok (.i2l, 1) := by decide +kernel
theorem dX5_count_2 : decode cX5_count 2 = .ok (.lconst 0, 1) := by decide +kernel
theorem dX5_count_3 : decode cX5_count 3 = .ok (.ldc2_w 196, 3) := by decide +kernel
theorem dX5_count_6 : decode cX5_count 6 = .ok (.invokestatic 63, 3) := by decide +kernel
theorem dX5_count_9 : decode cX5_count 9 = .ok (.ifCond .ne 5, 3) := by decide +kernel
theorem dX5_count_12 : decode cX5_count 12 = .ok (.iconst (-1), 1) := by decide +kernel
theorem dX5_count_13 : decode cX5_count 13 = .ok (.ireturn, 1) := by decide +kernel
theorem dX5_count_14 : decode cX5_count 14 = .ok (.aload_n 0, 1) := by decide +kernel
theorem dX5_count_15 : decode cX5_count 15 = .ok (.invokevirtual 123, 3) := by decide +kernel
theorem dX5_count_18 : decode cX5_count 18 = .ok (.istore_n 2, 1) := by decide +kernel
theorem dX5_count_19 : decode cX5_count 19 = .ok (.iload_n 1, 1) := by decide +kernel
theorem dX5_count_20 : decode cX5_count 20 = .ok (.ifCond .ne 10, 3) := by decide +kernel
theorem dX5_count_23 : decode cX5_count 23 = .ok (.aload_n 0, 1) := by decide +kernel
theorem dX5_count_24 : decode cX5_count 24 = .ok (.getfield 97, 3) := by decide +kernel
theorem dX5_count_27 : decode cX5_count 27 = .ok (.goto 121, 3) := by decide +kernel
theorem dX5_count_30 : decode cX5_count 30 = .ok (.iload_n 1, 1) := by decide +kernel
theorem dX5_count_31 : decode cX5_count 31 = .ok (.iconst 1, 1) := by decide +kernel
theorem dX5_count_32 : decode cX5_count 32 = .ok (.if_icmp .ne 14, 3) := by decide +kernel
theorem dX5_count_35 : decode cX5_count 35 = .ok (.aload_n 0, 1) := by decide +kernel
theorem dX5_count_36 : decode cX5_count 36 = .ok (.getfield 41, 3) := by decide +kernel
theorem dX5_count_39 : decode cX5_count 39 = .ok (.iload_n 2, 1) := by decide +kernel
theorem dX5_count_40 : decode cX5_count 40 = .ok (.iconst 0, 1) := by decide +kernel
theorem dX5_count_41 : decode cX5_count 41 = .ok (.iadd, 1) := by decide +kernel
theorem dX5_count_42 : decode cX5_count 42 = .ok (.iaload, 1) := by decide +kernel
theorem dX5_count_43 : decode cX5_count 43 = .ok (.goto 105, 3) := by decide +kernel
theorem dX5_count_46 : decode cX5_count 46 = .ok (.iload_n 1, 1) := by decide +kernel
theorem dX5_count_47 : decode cX5_count 47 = .ok (.iconst 2, 1) := by decide +kernel
theorem dX5_count_48 : decode cX5_count 48 = .ok (.if_icmp .ne 10, 3) := by decide +kernel
theorem dX5_count_51 : decode cX5_count 51 = .ok (.aload_n 0, 1) := by decide +kernel
theorem dX5_count_52 : decode cX5_count 52 = .ok (.getfield 100, 3) := by decide +kernel
theorem dX5_count_55 : decode cX5_count 55 = .ok (.goto 93, 3) := by decide +kernel
theorem dX5_count_58 : decode cX5_count 58 = .ok (.iload_n 1, 1) := by decide +kernel
theorem dX5_count_59 : decode cX5_count 59 = .ok (.iconst 3, 1) := by decide +kernel
theorem dX5_count_60 : decode cX5_count 60 = .ok (.if_icmp .ne 14, 3) := by decide +kernel
theorem dX5_count_63 : decode cX5_count 63 = .ok (.aload_n 0, 1) := by decide +kernel
theorem dX5_count_64 : decode cX5_count 64 = .ok (.getfield 41, 3) := by decide +kernel
theorem dX5_count_67 : decode cX5_count 67 = .ok (.iload_n 2, 1) := by decide +kernel
theorem dX5_count_68 : decode cX5_count 68 = .ok (.iconst 1, 1) := by decide +kernel
theorem dX5_count_69 : decode cX5_count 69 = .ok (.iadd, 1) := by decide +kernel
theorem dX5_count_70 : decode cX5_count 70 = .ok (.iaload, 1) := by decide +kernel
theorem dX5_count_71 : decode cX5_count 71 = .ok (.goto 77, 3) := by decide +kernel
theorem dX5_count_74 : decode cX5_count 74 = .ok (.iload_n 1, 1) := by decide +kernel
theorem dX5_count_75 : decode cX5_count 75 = .ok (.iconst 4, 1) := by decide +kernel
theorem dX5_count_76 : decode cX5_count 76 = .ok (.if_icmp .ne 14, 3) := by decide +kernel
theorem dX5_count_79 : decode cX5_count 79 = .ok (.aload_n 0, 1) := by decide +kernel
theorem dX5_count_80 : decode cX5_count 80 = .ok (.getfield 41, 3) := by decide +kernel
theorem dX5_count_83 : decode cX5_count 83 = .ok (.iload_n 2, 1) := by decide +kernel
theorem dX5_count_84 : decode cX5_count 84 = .ok (.iconst 2, 1) := by decide +kernel
theorem dX5_count_85 : decode cX5_count 85 = .ok (.iadd, 1) := by decide +kernel
theorem dX5_count_86 : decode cX5_count 86 = .ok (.iaload, 1) := by decide +kernel
theorem dX5_count_87 : decode cX5_count 87 = .ok (.goto 61, 3) := by decide +kernel
theorem dX5_count_90 : decode cX5_count 90 = .ok (.iload_n 1, 1) := by decide +kernel
theorem dX5_count_91 : decode cX5_count 91 = .ok (.iconst 5, 1) := by decide +kernel
theorem dX5_count_92 : decode cX5_count 92 = .ok (.if_icmp .ne 14, 3) := by decide +kernel
theorem dX5_count_95 : decode cX5_count 95 = .ok (.aload_n 0, 1) := by decide +kernel
theorem dX5_count_96 : decode cX5_count 96 = .ok (.getfield 41, 3) := by decide +kernel
theorem dX5_count_99 : decode cX5_count 99 = .ok (.iload_n 2, 1) := by decide +kernel
theorem dX5_count_100 : decode cX5_count 100 = .ok (.iconst 3, 1) := by decide +kernel
theorem dX5_count_101 : decode cX5_count 101 = .ok (.iadd, 1) := by decide +kernel
theorem dX5_count_102 : decode cX5_count 102 = .ok (.iaload, 1) := by decide +kernel
theorem dX5_count_103 : decode cX5_count 103 = .ok (.goto 45, 3) := by decide +kernel
theorem dX5_count_106 : decode cX5_count 106 = .ok (.iload_n 1, 1) := by decide +kernel
theorem dX5_count_107 : decode cX5_count 107 = .ok (.bipush 6, 2) := by decide +kernel
theorem dX5_count_109 : decode cX5_count 109 = .ok (.if_icmp .ne 14, 3) := by decide +kernel
theorem dX5_count_112 : decode cX5_count 112 = .ok (.aload_n 0, 1) := by decide +kernel
theorem dX5_count_113 : decode cX5_count 113 = .ok (.getfield 41, 3) := by decide +kernel
theorem dX5_count_116 : decode cX5_count 116 = .ok (.iload_n 2, 1) := by decide +kernel
theorem dX5_count_117 : decode cX5_count 117 = .ok (.iconst 4, 1) := by decide +kernel
theorem dX5_count_118 : decode cX5_count 118 = .ok (.iadd, 1) := by decide +kernel
theorem dX5_count_119 : decode cX5_count 119 = .ok (.iaload, 1) := by decide +kernel
theorem dX5_count_120 : decode cX5_count 120 = .ok (.goto 28, 3) := by decide +kernel
theorem dX5_count_123 : decode cX5_count 123 = .ok (.iload_n 1, 1) := by decide +kernel
theorem dX5_count_124 : decode cX5_count 124 = .ok (.bipush 7, 2) := by decide +kernel
theorem dX5_count_126 : decode cX5_count 126 = .ok (.if_icmp .ne 14, 3) := by decide +kernel
theorem dX5_count_129 : decode cX5_count 129 = .ok (.aload_n 0, 1) := by decide +kernel
theorem dX5_count_130 : decode cX5_count 130 = .ok (.getfield 41, 3) := by decide +kernel
theorem dX5_count_133 : decode cX5_count 133 = .ok (.iload_n 2, 1) := by decide +kernel
theorem dX5_count_134 : decode cX5_count 134 = .ok (.iconst 5, 1) := by decide +kernel
theorem dX5_count_135 : decode cX5_count 135 = .ok (.iadd, 1) := by decide +kernel
theorem dX5_count_136 : decode cX5_count 136 = .ok (.iaload, 1) := by decide +kernel
theorem dX5_count_137 : decode cX5_count 137 = .ok (.goto 11, 3) := by decide +kernel
theorem dX5_count_140 : decode cX5_count 140 = .ok (.aload_n 0, 1) := by decide +kernel
theorem dX5_count_141 : decode cX5_count 141 = .ok (.iload_n 1, 1) := by decide +kernel
theorem dX5_count_142 : decode cX5_count 142 = .ok (.bipush 8, 2) := by decide +kernel
theorem dX5_count_144 : decode cX5_count 144 = .ok (.isub, 1) := by decide +kernel
theorem dX5_count_145 : decode cX5_count 145 = .ok (.invokevirtual 214, 3) := by decide +kernel
theorem dX5_count_148 : decode cX5_count 148 = .ok (.ireturn, 1) := by decide +kernel
theorem dX5_finding_0 : decode cX5_finding 0 = .ok (.aload_n 0, 1) := by decide +kernel
theorem dX5_finding_1 : decode cX5_finding 1 = .ok (.getfield 57, 3) := by decide +kernel
theorem dX5_finding_4 : decode cX5_finding 4 = .ok (.ireturn, 1) := by decide +kernel
theorem dX5_findings_0 : decode cX5_findings 0 = .ok (.iload_n 1, 1) := by decide +kernel
theorem dX5_findings_1 : decode cX5_findings 1 = .ok (.i2l, 1) := by decide +kernel
theorem dX5_findings_2 : decode cX5_findings 2 = .ok (.lconst 1, 1) := by decide +kernel
theorem dX5_findings_3 : decode cX5_findings 3 = .ok (.ldc2_w 61, 3) := by decide +kernel
theorem dX5_findings_6 : decode cX5_findings 6 = .ok (.invokestatic 63, 3) := by decide +kernel
theorem dX5_findings_9 : decode cX5_findings 9 = .ok (.ifCond .eq 12, 3) := by decide +kernel
theorem dX5_findings_12 : decode cX5_findings 12 = .ok (.aload_n 0, 1) := by decide +kernel
theorem dX5_findings_13 : decode cX5_findings 13 = .ok (.getfield 51, 3) := by decide +kernel
theorem dX5_findings_16 : decode cX5_findings 16 = .ok (.iload_n 1, 1) := by decide +kernel
theorem dX5_findings_17 : decode cX5_findings 17 = .ok (.iaload, 1) := by decide +kernel
theorem dX5_findings_18 : decode cX5_findings 18 = .ok (.goto 4, 3) := by decide +kernel
theorem dX5_findings_21 : decode cX5_findings 21 = .ok (.iconst (-1), 1) := by decide +kernel
theorem dX5_findings_22 : decode cX5_findings 22 = .ok (.ireturn, 1) := by decide +kernel
theorem dX5_digest_0 : decode cX5_digest 0 = .ok (.ldc2_w 217, 3) := by decide +kernel
theorem dX5_digest_3 : decode cX5_digest 3 = .ok (.lstore_n 1, 1) := by decide +kernel
theorem dX5_digest_4 : decode cX5_digest 4 = .ok (.iconst 0, 1) := by decide +kernel
theorem dX5_digest_5 : decode cX5_digest 5 = .ok (.istore_n 3, 1) := by decide +kernel
theorem dX5_digest_6 : decode cX5_digest 6 = .ok (.iload_n 3, 1) := by decide +kernel
theorem dX5_digest_7 : decode cX5_digest 7 = .ok (.bipush 13, 2) := by decide +kernel
theorem dX5_digest_9 : decode cX5_digest 9 = .ok (.if_icmp .ge 22, 3) := by decide +kernel
theorem dX5_digest_12 : decode cX5_digest 12 = .ok (.ldc2_w 219, 3) := by decide +kernel
theorem dX5_digest_15 : decode cX5_digest 15 = .ok (.lload_n 1, 1) := by decide +kernel
theorem dX5_digest_16 : decode cX5_digest 16 = .ok (.lmul, 1) := by decide +kernel
theorem dX5_digest_17 : decode cX5_digest 17 = .ok (.aload_n 0, 1) := by decide +kernel
theorem dX5_digest_18 : decode cX5_digest 18 = .ok (.iload_n 3, 1) := by decide +kernel
theorem dX5_digest_19 : decode cX5_digest 19 = .ok (.invokevirtual 221, 3) := by decide +kernel
theorem dX5_digest_22 : decode cX5_digest 22 = .ok (.i2l, 1) := by decide +kernel
theorem dX5_digest_23 : decode cX5_digest 23 = .ok (.ladd, 1) := by decide +kernel
theorem dX5_digest_24 : decode cX5_digest 24 = .ok (.lstore_n 1, 1) := by decide +kernel
theorem dX5_digest_25 : decode cX5_digest 25 = .ok (.iinc 3 1, 3) := by decide +kernel
theorem dX5_digest_28 : decode cX5_digest 28 = .ok (.goto (-22), 3) := by decide +kernel
theorem dX5_digest_31 : decode cX5_digest 31 = .ok (.iconst 0, 1) := by decide +kernel
theorem dX5_digest_32 : decode cX5_digest 32 = .ok (.istore_n 3, 1) := by decide +kernel
theorem dX5_digest_33 : decode cX5_digest 33 = .ok (.iload_n 3, 1) := by decide +kernel
theorem dX5_digest_34 : decode cX5_digest 34 = .ok (.aload_n 0, 1) := by decide +kernel
theorem dX5_digest_35 : decode cX5_digest 35 = .ok (.getfield 97, 3) := by decide +kernel
theorem dX5_digest_38 : decode cX5_digest 38 = .ok (.if_icmp .ge 40, 3) := by decide +kernel
theorem dX5_digest_41 : decode cX5_digest 41 = .ok (.iconst 0, 1) := by decide +kernel
theorem dX5_digest_42 : decode cX5_digest 42 = .ok (.istore 4, 2) := by decide +kernel
theorem dX5_digest_44 : decode cX5_digest 44 = .ok (.iload 4, 2) := by decide +kernel
theorem dX5_digest_46 : decode cX5_digest 46 = .ok (.bipush 6, 2) := by decide +kernel
theorem dX5_digest_48 : decode cX5_digest 48 = .ok (.if_icmp .ge 24, 3) := by decide +kernel
theorem dX5_digest_51 : decode cX5_digest 51 = .ok (.ldc2_w 219, 3) := by decide +kernel
theorem dX5_digest_54 : decode cX5_digest 54 = .ok (.lload_n 1, 1) := by decide +kernel
theorem dX5_digest_55 : decode cX5_digest 55 = .ok (.lmul, 1) := by decide +kernel
theorem dX5_digest_56 : decode cX5_digest 56 = .ok (.aload_n 0, 1) := by decide +kernel
theorem dX5_digest_57 : decode cX5_digest 57 = .ok (.iload_n 3, 1) := by decide +kernel
theorem dX5_digest_58 : decode cX5_digest 58 = .ok (.iload 4, 2) := by decide +kernel
theorem dX5_digest_60 : decode cX5_digest 60 = .ok (.invokevirtual 137, 3) := by decide +kernel
theorem dX5_digest_63 : decode cX5_digest 63 = .ok (.i2l, 1) := by decide +kernel
theorem dX5_digest_64 : decode cX5_digest 64 = .ok (.ladd, 1) := by decide +kernel
theorem dX5_digest_65 : decode cX5_digest 65 = .ok (.lstore_n 1, 1) := by decide +kernel
theorem dX5_digest_66 : decode cX5_digest 66 = .ok (.iinc 4 1, 3) := by decide +kernel
theorem dX5_digest_69 : decode cX5_digest 69 = .ok (.goto (-25), 3) := by decide +kernel
theorem dX5_digest_72 : decode cX5_digest 72 = .ok (.iinc 3 1, 3) := by decide +kernel
theorem dX5_digest_75 : decode cX5_digest 75 = .ok (.goto (-42), 3) := by decide +kernel
theorem dX5_digest_78 : decode cX5_digest 78 = .ok (.iconst 0, 1) := by decide +kernel
theorem dX5_digest_79 : decode cX5_digest 79 = .ok (.istore_n 3, 1) := by decide +kernel
theorem dX5_digest_80 : decode cX5_digest 80 = .ok (.iload_n 3, 1) := by decide +kernel
theorem dX5_digest_81 : decode cX5_digest 81 = .ok (.iconst 3, 1) := by decide +kernel
theorem dX5_digest_82 : decode cX5_digest 82 = .ok (.if_icmp .ge 23, 3) := by decide +kernel
theorem dX5_digest_85 : decode cX5_digest 85 = .ok (.ldc2_w 219, 3) := by decide +kernel
theorem dX5_digest_88 : decode cX5_digest 88 = .ok (.lload_n 1, 1) := by decide +kernel
theorem dX5_digest_89 : decode cX5_digest 89 = .ok (.lmul, 1) := by decide +kernel
theorem dX5_digest_90 : decode cX5_digest 90 = .ok (.aload_n 0, 1) := by decide +kernel
theorem dX5_digest_91 : decode cX5_digest 91 = .ok (.getfield 44, 3) := by decide +kernel
theorem dX5_digest_94 : decode cX5_digest 94 = .ok (.iload_n 3, 1) := by decide +kernel
theorem dX5_digest_95 : decode cX5_digest 95 = .ok (.iaload, 1) := by decide +kernel
theorem dX5_digest_96 : decode cX5_digest 96 = .ok (.i2l, 1) := by decide +kernel
theorem dX5_digest_97 : decode cX5_digest 97 = .ok (.ladd, 1) := by decide +kernel
theorem dX5_digest_98 : decode cX5_digest 98 = .ok (.lstore_n 1, 1) := by decide +kernel
theorem dX5_digest_99 : decode cX5_digest 99 = .ok (.iinc 3 1, 3) := by decide +kernel
theorem dX5_digest_102 : decode cX5_digest 102 = .ok (.goto (-22), 3) := by decide +kernel
theorem dX5_digest_105 : decode cX5_digest 105 = .ok (.iconst 0, 1) := by decide +kernel
theorem dX5_digest_106 : decode cX5_digest 106 = .ok (.istore_n 3, 1) := by decide +kernel
theorem dX5_digest_107 : decode cX5_digest 107 = .ok (.iload_n 3, 1) := by decide +kernel
theorem dX5_digest_108 : decode cX5_digest 108 = .ok (.bipush 6, 2) := by decide +kernel
theorem dX5_digest_110 : decode cX5_digest 110 = .ok (.if_icmp .ge 63, 3) := by decide +kernel
theorem dX5_digest_113 : decode cX5_digest 113 = .ok (.ldc2_w 219, 3) := by decide +kernel
theorem dX5_digest_116 : decode cX5_digest 116 = .ok (.lload_n 1, 1) := by decide +kernel
theorem dX5_digest_117 : decode cX5_digest 117 = .ok (.lmul, 1) := by decide +kernel
theorem dX5_digest_118 : decode cX5_digest 118 = .ok (.aload_n 0, 1) := by decide +kernel
theorem dX5_digest_119 : decode cX5_digest 119 = .ok (.getfield 7, 3) := by decide +kernel
theorem dX5_digest_122 : decode cX5_digest 122 = .ok (.iload_n 3, 1) := by decide +kernel
theorem dX5_digest_123 : decode cX5_digest 123 = .ok (.iaload, 1) := by decide +kernel
theorem dX5_digest_124 : decode cX5_digest 124 = .ok (.i2l, 1) := by decide +kernel
theorem dX5_digest_125 : decode cX5_digest 125 = .ok (.ladd, 1) := by decide +kernel
theorem dX5_digest_126 : decode cX5_digest 126 = .ok (.lstore_n 1, 1) := by decide +kernel
theorem dX5_digest_127 : decode cX5_digest 127 = .ok (.iconst 0, 1) := by decide +kernel
theorem dX5_digest_128 : decode cX5_digest 128 = .ok (.istore 4, 2) := by decide +kernel
theorem dX5_digest_130 : decode cX5_digest 130 = .ok (.iload 4, 2) := by decide +kernel
theorem dX5_digest_132 : decode cX5_digest 132 = .ok (.aload_n 0, 1) := by decide +kernel
theorem dX5_digest_133 : decode cX5_digest 133 = .ok (.getfield 7, 3) := by decide +kernel
theorem dX5_digest_136 : decode cX5_digest 136 = .ok (.iload_n 3, 1) := by decide +kernel
theorem dX5_digest_137 : decode cX5_digest 137 = .ok (.iaload, 1) := by decide +kernel
theorem dX5_digest_138 : decode cX5_digest 138 = .ok (.if_icmp .ge 29, 3) := by decide +kernel
theorem dX5_digest_141 : decode cX5_digest 141 = .ok (.ldc2_w 219, 3) := by decide +kernel
theorem dX5_digest_144 : decode cX5_digest 144 = .ok (.lload_n 1, 1) := by decide +kernel
theorem dX5_digest_145 : decode cX5_digest 145 = .ok (.lmul, 1) := by decide +kernel
theorem dX5_digest_146 : decode cX5_digest 146 = .ok (.aload_n 0, 1) := by decide +kernel
theorem dX5_digest_147 : decode cX5_digest 147 = .ok (.getfield 13, 3) := by decide +kernel
theorem dX5_digest_150 : decode cX5_digest 150 = .ok (.bipush 40, 2) := by decide +kernel
theorem dX5_digest_152 : decode cX5_digest 152 = .ok (.iload_n 3, 1) := by decide +kernel
theorem dX5_digest_153 : decode cX5_digest 153 = .ok (.imul, 1) := by decide +kernel
theorem dX5_digest_154 : decode cX5_digest 154 = .ok (.iload 4, 2) := by decide +kernel
theorem dX5_digest_156 : decode cX5_digest 156 = .ok (.iadd, 1) := by decide +kernel
theorem dX5_digest_157 : decode cX5_digest 157 = .ok (.iaload, 1) := by decide +kernel
theorem dX5_digest_158 : decode cX5_digest 158 = .ok (.i2l, 1) := by decide +kernel
theorem dX5_digest_159 : decode cX5_digest 159 = .ok (.ladd, 1) := by decide +kernel
theorem dX5_digest_160 : decode cX5_digest 160 = .ok (.lstore_n 1, 1) := by decide +kernel
theorem dX5_digest_161 : decode cX5_digest 161 = .ok (.iinc 4 1, 3) := by decide +kernel
theorem dX5_digest_164 : decode cX5_digest 164 = .ok (.goto (-34), 3) := by decide +kernel
theorem dX5_digest_167 : decode cX5_digest 167 = .ok (.iinc 3 1, 3) := by decide +kernel
theorem dX5_digest_170 : decode cX5_digest 170 = .ok (.goto (-63), 3) := by decide +kernel
theorem dX5_digest_173 : decode cX5_digest 173 = .ok (.iconst 0, 1) := by decide +kernel
theorem dX5_digest_174 : decode cX5_digest 174 = .ok (.istore_n 3, 1) := by decide +kernel
theorem dX5_digest_175 : decode cX5_digest 175 = .ok (.iload_n 3, 1) := by decide +kernel
theorem dX5_digest_176 : decode cX5_digest 176 = .ok (.iconst 4, 1) := by decide +kernel
theorem dX5_digest_177 : decode cX5_digest 177 = .ok (.if_icmp .ge 63, 3) := by decide +kernel
theorem dX5_digest_180 : decode cX5_digest 180 = .ok (.ldc2_w 219, 3) := by decide +kernel
theorem dX5_digest_183 : decode cX5_digest 183 = .ok (.lload_n 1, 1) := by decide +kernel
theorem dX5_digest_184 : decode cX5_digest 184 = .ok (.lmul, 1) := by decide +kernel
theorem dX5_digest_185 : decode cX5_digest 185 = .ok (.aload_n 0, 1) := by decide +kernel
theorem dX5_digest_186 : decode cX5_digest 186 = .ok (.getfield 16, 3) := by decide +kernel
theorem dX5_digest_189 : decode cX5_digest 189 = .ok (.iload_n 3, 1) := by decide +kernel
theorem dX5_digest_190 : decode cX5_digest 190 = .ok (.iaload, 1) := by decide +kernel
theorem dX5_digest_191 : decode cX5_digest 191 = .ok (.i2l, 1) := by decide +kernel
theorem dX5_digest_192 : decode cX5_digest 192 = .ok (.ladd, 1) := by decide +kernel
theorem dX5_digest_193 : decode cX5_digest 193 = .ok (.lstore_n 1, 1) := by decide +kernel
theorem dX5_digest_194 : decode cX5_digest 194 = .ok (.iconst 0, 1) := by decide +kernel
theorem dX5_digest_195 : decode cX5_digest 195 = .ok (.istore 4, 2) := by decide +kernel
theorem dX5_digest_197 : decode cX5_digest 197 = .ok (.iload 4, 2) := by decide +kernel
theorem dX5_digest_199 : decode cX5_digest 199 = .ok (.aload_n 0, 1) := by decide +kernel
theorem dX5_digest_200 : decode cX5_digest 200 = .ok (.getfield 16, 3) := by decide +kernel
theorem dX5_digest_203 : decode cX5_digest 203 = .ok (.iload_n 3, 1) := by decide +kernel
theorem dX5_digest_204 : decode cX5_digest 204 = .ok (.iaload, 1) := by decide +kernel
theorem dX5_digest_205 : decode cX5_digest 205 = .ok (.if_icmp .ge 29, 3) := by decide +kernel
theorem dX5_digest_208 : decode cX5_digest 208 = .ok (.ldc2_w 219, 3) := by decide +kernel
theorem dX5_digest_211 : decode cX5_digest 211 = .ok (.lload_n 1, 1) := by decide +kernel
theorem dX5_digest_212 : decode cX5_digest 212 = .ok (.lmul, 1) := by decide +kernel
theorem dX5_digest_213 : decode cX5_digest 213 = .ok (.aload_n 0, 1) := by decide +kernel
theorem dX5_digest_214 : decode cX5_digest 214 = .ok (.getfield 19, 3) := by decide +kernel
theorem dX5_digest_217 : decode cX5_digest 217 = .ok (.bipush 60, 2) := by decide +kernel
theorem dX5_digest_219 : decode cX5_digest 219 = .ok (.iload_n 3, 1) := by decide +kernel
theorem dX5_digest_220 : decode cX5_digest 220 = .ok (.imul, 1) := by decide +kernel
theorem dX5_digest_221 : decode cX5_digest 221 = .ok (.iload 4, 2) := by decide +kernel
theorem dX5_digest_223 : decode cX5_digest 223 = .ok (.iadd, 1) := by decide +kernel
theorem dX5_digest_224 : decode cX5_digest 224 = .ok (.baload, 1) := by decide +kernel
theorem dX5_digest_225 : decode cX5_digest 225 = .ok (.i2l, 1) := by decide +kernel
theorem dX5_digest_226 : decode cX5_digest 226 = .ok (.ladd, 1) := by decide +kernel
theorem dX5_digest_227 : decode cX5_digest 227 = .ok (.lstore_n 1, 1) := by decide +kernel
theorem dX5_digest_228 : decode cX5_digest 228 = .ok (.iinc 4 1, 3) := by decide +kernel
theorem dX5_digest_231 : decode cX5_digest 231 = .ok (.goto (-34), 3) := by decide +kernel
theorem dX5_digest_234 : decode cX5_digest 234 = .ok (.iinc 3 1, 3) := by decide +kernel
theorem dX5_digest_237 : decode cX5_digest 237 = .ok (.goto (-62), 3) := by decide +kernel
theorem dX5_digest_240 : decode cX5_digest 240 = .ok (.lload_n 1, 1) := by decide +kernel
theorem dX5_digest_241 : decode cX5_digest 241 = .ok (.lreturn, 1) := by decide +kernel
