theorem dX4_odds_23 : decode cX4_odds 23 = .ok (.aload_n 0, 1) := by decide +kernel
theorem dX4_odds_24 : decode cX4_odds 24 = .ok (.invokevirtual 154, 3) := by decide +kernel
theorem dX4_odds_27 : decode cX4_odds 27 = .ok (.ifCond .eq 6, 3) := by decide +kernel
theorem dX4_odds_30 : decode cX4_odds 30 = .ok (.bipush (-4), 2) := by decide +kernel
theorem dX4_odds_32 : decode cX4_odds 32 = .ok (.ireturn, 1) := by decide +kernel
theorem dX4_odds_33 : decode cX4_odds 33 = .ok (.lconst 0, 1) := by decide +kernel
theorem dX4_odds_34 : decode cX4_odds 34 = .ok (.lstore_n 3, 1) := by decide +kernel
theorem dX4_odds_35 : decode cX4_odds 35 = .ok (.iconst 0, 1) := by decide +kernel
theorem dX4_odds_36 : decode cX4_odds 36 = .ok (.istore 5, 2) := by decide +kernel
theorem dX4_odds_38 : decode cX4_odds 38 = .ok (.iload 5, 2) := by decide +kernel
theorem dX4_odds_40 : decode cX4_odds 40 = .ok (.bipush 64, 2) := by decide +kernel
theorem dX4_odds_42 : decode cX4_odds 42 = .ok (.if_icmp .ge 28, 3) := by decide +kernel
theorem dX4_odds_45 : decode cX4_odds 45 = .ok (.aload_n 0, 1) := by decide +kernel
theorem dX4_odds_46 : decode cX4_odds 46 = .ok (.iload 5, 2) := by decide +kernel
theorem dX4_odds_48 : decode cX4_odds 48 = .ok (.invokevirtual 230, 3) := by decide +kernel
theorem dX4_odds_51 : decode cX4_odds 51 = .ok (.iload_n 1, 1) := by decide +kernel
theorem dX4_odds_52 : decode cX4_odds 52 = .ok (.if_icmp .lt 12, 3) := by decide +kernel
theorem dX4_odds_55 : decode cX4_odds 55 = .ok (.lload_n 3, 1) := by decide +kernel
theorem dX4_odds_56 : decode cX4_odds 56 = .ok (.iload 5, 2) := by decide +kernel
theorem dX4_odds_58 : decode cX4_odds 58 = .ok (.iload_n 2, 1) := by decide +kernel
theorem dX4_odds_59 : decode cX4_odds 59 = .ok (.invokestatic 233, 3) := by decide +kernel
theorem dX4_odds_62 : decode cX4_odds 62 = .ok (.ladd, 1) := by decide +kernel
theorem dX4_odds_63 : decode cX4_odds 63 = .ok (.lstore_n 3, 1) := by decide +kernel
theorem dX4_odds_64 : decode cX4_odds 64 = .ok (.iinc 5 1, 3) := by decide +kernel
theorem dX4_odds_67 : decode cX4_odds 67 = .ok (.goto (-29), 3) := by decide +kernel
theorem dX4_odds_70 : decode cX4_odds 70 = .ok (.aload_n 0, 1) := by decide +kernel
theorem dX4_odds_71 : decode cX4_odds 71 = .ok (.lload_n 3, 1) := by decide +kernel
theorem dX4_odds_72 : decode cX4_odds 72 = .ok (.bipush 12, 2) := by decide +kernel
theorem dX4_odds_74 : decode cX4_odds 74 = .ok (.bipush 6, 2) := by decide +kernel
theorem dX4_odds_76 : decode cX4_odds 76 = .ok (.invokestatic 237, 3) := by decide +kernel
theorem dX4_odds_79 : decode cX4_odds 79 = .ok (.invokevirtual 240, 3) := by decide +kernel
theorem dX4_odds_82 : decode cX4_odds 82 = .ok (.iconst 1, 1) := by decide +kernel
theorem dX4_odds_83 : decode cX4_odds 83 = .ok (.ireturn, 1) := by decide +kernel
theorem dX4_mid_0 : decode cX4_mid 0 = .ok (.iload_n 1, 1) := by decide +kernel
theorem dX4_mid_1 : decode cX4_mid 1 = .ok (.iconst 0, 1) := by decide +kernel
theorem dX4_mid_2 : decode cX4_mid 2 = .ok (.bipush 12, 2) := by decide +kernel
theorem dX4_mid_4 : decode cX4_mid 4 = .ok (.invokestatic 133, 3) := by decide +kernel
theorem dX4_mid_7 : decode cX4_mid 7 = .ok (.ifCond .ne 5, 3) := by decide +kernel
theorem dX4_mid_10 : decode cX4_mid 10 = .ok (.iconst (-1), 1) := by decide +kernel
theorem dX4_mid_11 : decode cX4_mid 11 = .ok (.ireturn, 1) := by decide +kernel
theorem dX4_mid_12 : decode cX4_mid 12 = .ok (.aload_n 0, 1) := by decide +kernel
theorem dX4_mid_13 : decode cX4_mid 13 = .ok (.invokevirtual 154, 3) := by decide +kernel
theorem dX4_mid_16 : decode cX4_mid 16 = .ok (.ifCond .eq 6, 3) := by decide +kernel
theorem dX4_mid_19 : decode cX4_mid 19 = .ok (.bipush (-4), 2) := by decide +kernel
theorem dX4_mid_21 : decode cX4_mid 21 = .ok (.ireturn, 1) := by decide +kernel
theorem dX4_mid_22 : decode cX4_mid 22 = .ok (.lconst 0, 1) := by decide +kernel
theorem dX4_mid_23 : decode cX4_mid 23 = .ok (.lstore_n 2, 1) := by decide +kernel
theorem dX4_mid_24 : decode cX4_mid 24 = .ok (.iconst 0, 1) := by decide +kernel
theorem dX4_mid_25 : decode cX4_mid 25 = .ok (.istore 4, 2) := by decide +kernel
theorem dX4_mid_27 : decode cX4_mid 27 = .ok (.iload 4, 2) := by decide +kernel
theorem dX4_mid_29 : decode cX4_mid 29 = .ok (.bipush 64, 2) := by decide +kernel
theorem dX4_mid_31 : decode cX4_mid 31 = .ok (.if_icmp .ge 26, 3) := by decide +kernel
theorem dX4_mid_34 : decode cX4_mid 34 = .ok (.lload_n 2, 1) := by decide +kernel
theorem dX4_mid_35 : decode cX4_mid 35 = .ok (.iload 4, 2) := by decide +kernel
theorem dX4_mid_37 : decode cX4_mid 37 = .ok (.iload_n 1, 1) := by decide +kernel
theorem dX4_mid_38 : decode cX4_mid 38 = .ok (.invokestatic 233, 3) := by decide +kernel
theorem dX4_mid_41 : decode cX4_mid 41 = .ok (.aload_n 0, 1) := by decide +kernel
theorem dX4_mid_42 : decode cX4_mid 42 = .ok (.iload 4, 2) := by decide +kernel
theorem dX4_mid_44 : decode cX4_mid 44 = .ok (.invokevirtual 230, 3) := by decide +kernel
theorem dX4_mid_47 : decode cX4_mid 47 = .ok (.i2l, 1) := by decide +kernel
theorem dX4_mid_48 : decode cX4_mid 48 = .ok (.lmul, 1) := by decide +kernel
theorem dX4_mid_49 : decode cX4_mid 49 = .ok (.ladd, 1) := by decide +kernel
theorem dX4_mid_50 : decode cX4_mid 50 = .ok (.lstore_n 2, 1) := by decide +kernel
theorem dX4_mid_51 : decode cX4_mid 51 = .ok (.iinc 4 1, 3) := by decide +kernel
theorem dX4_mid_54 : decode cX4_mid 54 = .ok (.goto (-27), 3) := by decide +kernel
theorem dX4_mid_57 : decode cX4_mid 57 = .ok (.aload_n 0, 1) := by decide +kernel
theorem dX4_mid_58 : decode cX4_mid 58 = .ok (.lload_n 2, 1) := by decide +kernel
theorem dX4_mid_59 : decode cX4_mid 59 = .ok (.bipush 12, 2) := by decide +kernel
theorem dX4_mid_61 : decode cX4_mid 61 = .ok (.bipush 6, 2) := by decide +kernel
theorem dX4_mid_63 : decode cX4_mid 63 = .ok (.invokestatic 237, 3) := by decide +kernel
theorem dX4_mid_66 : decode cX4_mid 66 = .ok (.invokevirtual 240, 3) := by decide +kernel
theorem dX4_mid_69 : decode cX4_mid 69 = .ok (.iconst 1, 1) := by decide +kernel
theorem dX4_mid_70 : decode cX4_mid 70 = .ok (.ireturn, 1) := by decide +kernel
theorem dX4_lots_0 : decode cX4_lots 0 = .ok (.iload_n 1, 1) := by decide +kernel
theorem dX4_lots_1 : decode cX4_lots 1 = .ok (.iconst 1, 1) := by decide +kernel
theorem dX4_lots_2 : decode cX4_lots 2 = .ok (.bipush 20, 2) := by decide +kernel
theorem dX4_lots_4 : decode cX4_lots 4 = .ok (.invokestatic 133, 3) := by decide +kernel
theorem dX4_lots_7 : decode cX4_lots 7 = .ok (.ifCond .eq 13, 3) := by decide +kernel
theorem dX4_lots_10 : decode cX4_lots 10 = .ok (.iload_n 2, 1) := by decide +kernel
theorem dX4_lots_11 : decode cX4_lots 11 = .ok (.iconst 1, 1) := by decide +kernel
theorem dX4_lots_12 : decode cX4_lots 12 = .ok (.ldc 244, 2) := by decide +kernel
theorem dX4_lots_14 : decode cX4_lots 14 = .ok (.invokestatic 133, 3) := by decide +kernel
theorem dX4_lots_17 : decode cX4_lots 17 = .ok (.ifCond .ne 5, 3) := by decide +kernel
theorem dX4_lots_20 : decode cX4_lots 20 = .ok (.iconst (-1), 1) := by decide +kernel
theorem dX4_lots_21 : decode cX4_lots 21 = .ok (.ireturn, 1) := by decide +kernel
theorem dX4_lots_22 : decode cX4_lots 22 = .ok (.aload_n 0, 1) := by decide +kernel
theorem dX4_lots_23 : decode cX4_lots 23 = .ok (.invokevirtual 154, 3) := by decide +kernel
theorem dX4_lots_26 : decode cX4_lots 26 = .ok (.ifCond .eq 6, 3) := by decide +kernel
theorem dX4_lots_29 : decode cX4_lots 29 = .ok (.bipush (-4), 2) := by decide +kernel
theorem dX4_lots_31 : decode cX4_lots 31 = .ok (.ireturn, 1) := by decide +kernel
theorem dX4_lots_32 : decode cX4_lots 32 = .ok (.aload_n 0, 1) := by decide +kernel
theorem dX4_lots_33 : decode cX4_lots 33 = .ok (.getfield 35, 3) := by decide +kernel
theorem dX4_lots_36 : decode cX4_lots 36 = .ok (.getfield 72, 3) := by decide +kernel
theorem dX4_lots_39 : decode cX4_lots 39 = .ok (.iload_n 1, 1) := by decide +kernel
theorem dX4_lots_40 : decode cX4_lots 40 = .ok (.iadd, 1) := by decide +kernel
theorem dX4_lots_41 : decode cX4_lots 41 = .ok (.bipush 40, 2) := by decide +kernel
theorem dX4_lots_43 : decode cX4_lots 43 = .ok (.if_icmp .le 6, 3) := by decide +kernel
theorem dX4_lots_46 : decode cX4_lots 46 = .ok (.bipush (-2), 2) := by decide +kernel
theorem dX4_lots_48 : decode cX4_lots 48 = .ok (.ireturn, 1) := by decide +kernel
theorem dX4_lots_49 : decode cX4_lots 49 = .ok (.iload_n 2, 1) := by decide +kernel
theorem dX4_lots_50 : decode cX4_lots 50 = .ok (.istore_n 3, 1) := by decide +kernel
theorem dX4_lots_51 : decode cX4_lots 51 = .ok (.iconst 0, 1) := by decide +kernel
theorem dX4_lots_52 : decode cX4_lots 52 = .ok (.istore 4, 2) := by decide +kernel
theorem dX4_lots_54 : decode cX4_lots 54 = .ok (.iload 4, 2) := by decide +kernel
theorem dX4_lots_56 : decode cX4_lots 56 = .ok (.iload_n 1, 1) := by decide +kernel
theorem dX4_lots_57 : decode cX4_lots 57 = .ok (.if_icmp .ge 26, 3) := by decide +kernel
theorem dX4_lots_60 : decode cX4_lots 60 = .ok (.iload_n 3, 1) := by decide +kernel
theorem dX4_lots_61 : decode cX4_lots 61 = .ok (.i2l, 1) := by decide +kernel
theorem dX4_lots_62 : decode cX4_lots 62 = .ok (.ldc2_w 245, 3) := by decide +kernel
theorem dX4_lots_65 : decode cX4_lots 65 = .ok (.lmul, 1) := by decide +kernel
theorem dX4_lots_66 : decode cX4_lots 66 = .ok (.ldc2_w 247, 3) := by decide +kernel
theorem dX4_lots_69 : decode cX4_lots 69 = .ok (.lrem, 1) := by decide +kernel
theorem dX4_lots_70 : decode cX4_lots 70 = .ok (.l2i, 1) := by decide +kernel
theorem dX4_lots_71 : decode cX4_lots 71 = .ok (.istore_n 3, 1) := by decide +kernel
theorem dX4_lots_72 : decode cX4_lots 72 = .ok (.aload_n 0, 1) := by decide +kernel
theorem dX4_lots_73 : decode cX4_lots 73 = .ok (.iload_n 3, 1) := by decide +kernel
theorem dX4_lots_74 : decode cX4_lots 74 = .ok (.invokevirtual 249, 3) := by decide +kernel
theorem dX4_lots_77 : decode cX4_lots 77 = .ok (.iinc 4 1, 3) := by decide +kernel
theorem dX4_lots_80 : decode cX4_lots 80 = .ok (.goto (-26), 3) := by decide +kernel
theorem dX4_lots_83 : decode cX4_lots 83 = .ok (.aload_n 0, 1) := by decide +kernel
theorem dX4_lots_84 : decode cX4_lots 84 = .ok (.getfield 28, 3) := by decide +kernel
theorem dX4_lots_87 : decode cX4_lots 87 = .ok (.getfield 196, 3) := by decide +kernel
theorem dX4_lots_90 : decode cX4_lots 90 = .ok (.ireturn, 1) := by decide +kernel
theorem dX4_asked_0 : decode cX4_asked 0 = .ok (.aload_n 0, 1) := by decide +kernel
theorem dX4_asked_1 : decode cX4_asked 1 = .ok (.getfield 53, 3) := by decide +kernel
theorem dX4_asked_4 : decode cX4_asked 4 = .ok (.ireturn, 1) := by decide +kernel
theorem dX4_upper_0 : decode cX4_upper 0 = .ok (.aload_n 0, 1) := by decide +kernel
theorem dX4_upper_1 : decode cX4_upper 1 = .ok (.getfield 57, 3) := by decide +kernel
theorem dX4_upper_4 : decode cX4_upper 4 = .ok (.lreturn, 1) := by decide +kernel
theorem dX4_lower_0 : decode cX4_lower 0 = .ok (.aload_n 0, 1) := by decide +kernel
theorem dX4_lower_1 : decode cX4_lower 1 = .ok (.getfield 61, 3) := by decide +kernel
theorem dX4_lower_4 : decode cX4_lower 4 = .ok (.lreturn, 1) := by decide +kernel
theorem dX4_count_0 : decode cX4_count 0 = .ok (.iload_n 1, 1) := by decide +kernel
theorem dX4_count_1 : decode cX4_count 1 = .ok (.tableswitch 178 0 12 #[67, 75, 83, 91, 99, 107, 115, 131, 139, 147, 155, 160, 169], 67) := by decide +kernel
theorem dX4_count_68 : decode cX4_count 68 = .ok (.aload_n 0, 1) := by decide +kernel
theorem dX4_count_69 : decode cX4_count 69 = .ok (.getfield 21, 3) := by decide +kernel
theorem dX4_count_72 : decode cX4_count 72 = .ok (.getfield 129, 3) := by decide +kernel
theorem dX4_count_75 : decode cX4_count 75 = .ok (.ireturn, 1) := by decide +kernel
theorem dX4_count_76 : decode cX4_count 76 = .ok (.aload_n 0, 1) := by decide +kernel
theorem dX4_count_77 : decode cX4_count 77 = .ok (.getfield 28, 3) := by decide +kernel
theorem dX4_count_80 : decode cX4_count 80 = .ok (.getfield 163, 3) := by decide +kernel
theorem dX4_count_83 : decode cX4_count 83 = .ok (.ireturn, 1) := by decide +kernel
theorem dX4_count_84 : decode cX4_count 84 = .ok (.aload_n 0, 1) := by decide +kernel
theorem dX4_count_85 : decode cX4_count 85 = .ok (.getfield 35, 3) := by decide +kernel
theorem dX4_count_88 : decode cX4_count 88 = .ok (.getfield 72, 3) := by decide +kernel
theorem dX4_count_91 : decode cX4_count 91 = .ok (.ireturn, 1) := by decide +kernel
theorem dX4_count_92 : decode cX4_count 92 = .ok (.aload_n 0, 1) := by decide +kernel
theorem dX4_count_93 : decode cX4_count 93 = .ok (.getfield 28, 3) := by decide +kernel
theorem dX4_count_96 : decode cX4_count 96 = .ok (.getfield 166, 3) := by decide +kernel
theorem dX4_count_99 : decode cX4_count 99 = .ok (.ireturn, 1) := by decide +kernel
theorem dX4_count_100 : decode cX4_count 100 = .ok (.aload_n 0, 1) := by decide +kernel
theorem dX4_count_101 : decode cX4_count 101 = .ok (.getfield 28, 3) := by decide +kernel
theorem dX4_count_104 : decode cX4_count 104 = .ok (.getfield 169, 3) := by decide +kernel
theorem dX4_count_107 : decode cX4_count 107 = .ok (.ireturn, 1) := by decide +kernel
theorem dX4_count_108 : decode cX4_count 108 = .ok (.aload_n 0, 1) := by decide +kernel
theorem dX4_count_109 : decode cX4_count 109 = .ok (.getfield 28, 3) := by decide +kernel
theorem dX4_count_112 : decode cX4_count 112 = .ok (.getfield 196, 3) := by decide +kernel
theorem dX4_count_115 : decode cX4_count 115 = .ok (.ireturn, 1) := by decide +kernel
theorem dX4_count_116 : decode cX4_count 116 = .ok (.aload_n 0, 1) := by decide +kernel
theorem dX4_count_117 : decode cX4_count 117 = .ok (.getfield 28, 3) := by decide +kernel
theorem dX4_count_120 : decode cX4_count 120 = .ok (.getfield 252, 3) := by decide +kernel
theorem dX4_count_123 : decode cX4_count 123 = .ok (.ifCond .eq 7, 3) := by decide +kernel
theorem dX4_count_126 : decode cX4_count 126 = .ok (.iconst 1, 1) := by decide +kernel
theorem dX4_count_127 : decode cX4_count 127 = .ok (.goto 4, 3) := by decide +kernel
theorem dX4_count_130 : decode cX4_count 130 = .ok (.iconst 0, 1) := by decide +kernel
theorem dX4_count_131 : decode cX4_count 131 = .ok (.ireturn, 1) := by decide +kernel
theorem dX4_count_132 : decode cX4_count 132 = .ok (.aload_n 0, 1) := by decide +kernel
theorem dX4_count_133 : decode cX4_count 133 = .ok (.getfield 21, 3) := by decide +kernel
theorem dX4_count_136 : decode cX4_count 136 = .ok (.getfield 256, 3) := by decide +kernel
theorem dX4_count_139 : decode cX4_count 139 = .ok (.ireturn, 1) := by decide +kernel
theorem dX4_count_140 : decode cX4_count 140 = .ok (.aload_n 0, 1) := by decide +kernel
theorem dX4_count_141 : decode cX4_count 141 = .ok (.getfield 11, 3) := by decide +kernel
theorem dX4_count_144 : decode cX4_count 144 = .ok (.invokestatic 259, 3) := by decide +kernel
theorem dX4_count_147 : decode cX4_count 147 = .ok (.ireturn, 1) := by decide +kernel
theorem dX4_count_148 : decode cX4_count 148 = .ok (.aload_n 0, 1) := by decide +kernel
theorem dX4_count_149 : decode cX4_count 149 = .ok (.getfield 15, 3) := by decide +kernel
theorem dX4_count_152 : decode cX4_count 152 = .ok (.invokestatic 259, 3) := by decide +kernel
theorem dX4_count_155 : decode cX4_count 155 = .ok (.ireturn, 1) := by decide +kernel
theorem dX4_count_156 : decode cX4_count 156 = .ok (.aload_n 0, 1) := by decide +kernel
theorem dX4_count_157 : decode cX4_count 157 = .ok (.invokevirtual 263, 3) := by decide +kernel
theorem dX4_count_160 : decode cX4_count 160 = .ok (.ireturn, 1) := by decide +kernel
theorem dX4_count_161 : decode cX4_count 161 = .ok (.aload_n 0, 1) := by decide +kernel
theorem dX4_count_162 : decode cX4_count 162 = .ok (.getfield 21, 3) := by decide +kernel
theorem dX4_count_165 : decode cX4_count 165 = .ok (.iconst 1, 1) := by decide +kernel
theorem dX4_count_166 : decode cX4_count 166 = .ok (.invokevirtual 267, 3) := by decide +kernel
theorem dX4_count_169 : decode cX4_count 169 = .ok (.ireturn, 1) := by decide +kernel
theorem dX4_count_170 : decode cX4_count 170 = .ok (.aload_n 0, 1) := by decide +kernel
theorem dX4_count_171 : decode cX4_count 171 = .ok (.getfield 21, 3) := by decide +kernel
theorem dX4_count_174 : decode cX4_count 174 = .ok (.iconst 3, 1) := by decide +kernel
theorem dX4_count_175 : decode cX4_count 175 = .ok (.invokevirtual 267, 3) := by decide +kernel
theorem dX4_count_178 : decode cX4_count 178 = .ok (.ireturn, 1) := by decide +kernel
theorem dX4_count_179 : decode cX4_count 179 = .ok (.iconst (-1), 1) := by decide +kernel
theorem dX4_count_180 : decode cX4_count 180 = .ok (.ireturn, 1) := by decide +kernel
theorem dX4_finding_0 : decode cX4_finding 0 = .ok (.aload_n 0, 1) := by decide +kernel
theorem dX4_finding_1 : decode cX4_finding 1 = .ok (.getfield 64, 3) := by decide +kernel
theorem dX4_finding_4 : decode cX4_finding 4 = .ok (.ireturn, 1) := by decide +kernel
theorem dX4_findings_0 : decode cX4_findings 0 = .ok (.iload_n 1, 1) := by decide +kernel
theorem dX4_findings_1 : decode cX4_findings 1 = .ok (.iconst 1, 1) := by decide +kernel
theorem dX4_findings_2 : decode cX4_findings 2 = .ok (.iconst 5, 1) := by decide +kernel
theorem dX4_findings_3 : decode cX4_findings 3 = .ok (.invokestatic 133, 3) := by decide +kernel
theorem dX4_findings_6 : decode cX4_findings 6 = .ok (.ifCond .eq 12, 3) := by decide +kernel
theorem dX4_findings_9 : decode cX4_findings 9 = .ok (.aload_n 0, 1) := by decide +kernel
theorem dX4_findings_10 : decode cX4_findings 10 = .ok (.getfield 67, 3) := by decide +kernel
theorem dX4_findings_13 : decode cX4_findings 13 = .ok (.iload_n 1, 1) := by decide +kernel
theorem dX4_findings_14 : decode cX4_findings 14 = .ok (.iaload, 1) := by decide +kernel
theorem dX4_findings_15 : decode cX4_findings 15 = .ok (.goto 4, 3) := by decide +kernel
theorem dX4_findings_18 : decode cX4_findings 18 = .ok (.iconst (-1), 1) := by decide +kernel
theorem dX4_findings_19 : decode cX4_findings 19 = .ok (.ireturn, 1) := by decide +kernel
theorem dX4_digest_0 : decode cX4_digest 0 = .ok (.ldc2_w 270, 3) := by decide +kernel
theorem dX4_digest_3 : decode cX4_digest 3 = .ok (.lstore_n 1, 1) := by decide +kernel
theorem dX4_digest_4 : decode cX4_digest 4 = .ok (.iconst 0, 1) := by decide +kernel
theorem dX4_digest_5 : decode cX4_digest 5 = .ok (.istore_n 3, 1) := by decide +kernel
theorem dX4_digest_6 : decode cX4_digest 6 = .ok (.iload_n 3, 1) := by decide +kernel
theorem dX4_digest_7 : decode cX4_digest 7 = .ok (.bipush 12, 2) := by decide +kernel
theorem dX4_digest_9 : decode cX4_digest 9 = .ok (.if_icmp .gt 22, 3) := by decide +kernel
theorem dX4_digest_12 : decode cX4_digest 12 = .ok (.ldc2_w 272, 3) := by decide +kernel
theorem dX4_digest_15 : decode cX4_digest 15 = .ok (.lload_n 1, 1) := by decide +kernel
theorem dX4_digest_16 : decode cX4_digest 16 = .ok (.lmul, 1) := by decide +kernel
theorem dX4_digest_17 : decode cX4_digest 17 = .ok (.aload_n 0, 1) := by decide +kernel
theorem dX4_digest_18 : decode cX4_digest 18 = .ok (.iload_n 3, 1) := by decide +kernel
theorem dX4_digest_19 : decode cX4_digest 19 = .ok (.invokevirtual 274, 3) := by decide +kernel
theorem dX4_digest_22 : decode cX4_digest 22 = .ok (.i2l, 1) := by decide +kernel
theorem dX4_digest_23 : decode cX4_digest 23 = .ok (.ladd, 1) := by decide +kernel
theorem dX4_digest_24 : decode cX4_digest 24 = .ok (.lstore_n 1, 1) := by decide +kernel
theorem dX4_digest_25 : decode cX4_digest 25 = .ok (.iinc 3 1, 3) := by decide +kernel
theorem dX4_digest_28 : decode cX4_digest 28 = .ok (.goto (-22), 3) := by decide +kernel
theorem dX4_digest_31 : decode cX4_digest 31 = .ok (.iconst 0, 1) := by decide +kernel
theorem dX4_digest_32 : decode cX4_digest 32 = .ok (.istore_n 3, 1) := by decide +kernel
theorem dX4_digest_33 : decode cX4_digest 33 = .ok (.iload_n 3, 1) := by decide +kernel
theorem dX4_digest_34 : decode cX4_digest 34 = .ok (.aload_n 0, 1) := by decide +kernel
theorem dX4_digest_35 : decode cX4_digest 35 = .ok (.getfield 21, 3) := by decide +kernel
theorem dX4_digest_38 : decode cX4_digest 38 = .ok (.getfield 129, 3) := by decide +kernel
theorem dX4_digest_41 : decode cX4_digest 41 = .ok (.if_icmp .ge 39, 3) := by decide +kernel
theorem dX4_digest_44 : decode cX4_digest 44 = .ok (.iconst 0, 1) := by decide +kernel
theorem dX4_digest_45 : decode cX4_digest 45 = .ok (.istore 4, 2) := by decide +kernel
theorem dX4_digest_47 : decode cX4_digest 47 = .ok (.iload 4, 2) := by decide +kernel
theorem dX4_digest_49 : decode cX4_digest 49 = .ok (.iconst 5, 1) := by decide +kernel
theorem dX4_digest_50 : decode cX4_digest 50 = .ok (.if_icmp .gt 24, 3) := by decide +kernel
theorem dX4_digest_53 : decode cX4_digest 53 = .ok (.ldc2_w 272, 3) := by decide +kernel
theorem dX4_digest_56 : decode cX4_digest 56 = .ok (.lload_n 1, 1) := by decide +kernel
theorem dX4_digest_57 : decode cX4_digest 57 = .ok (.lmul, 1) := by decide +kernel
theorem dX4_digest_58 : decode cX4_digest 58 = .ok (.aload_n 0, 1) := by decide +kernel
theorem dX4_digest_59 : decode cX4_digest 59 = .ok (.iload_n 3, 1) := by decide +kernel
theorem dX4_digest_60 : decode cX4_digest 60 = .ok (.iload 4, 2) := by decide +kernel
theorem dX4_digest_62 : decode cX4_digest 62 = .ok (.invokevirtual 137, 3) := by decide +kernel
theorem dX4_digest_65 : decode cX4_digest 65 = .ok (.i2l, 1) := by decide +kernel
theorem dX4_digest_66 : decode cX4_digest 66 = .ok (.ladd, 1) := by decide +kernel
theorem dX4_digest_67 : decode cX4_digest 67 = .ok (.lstore_n 1, 1) := by decide +kernel
theorem dX4_digest_68 : decode cX4_digest 68 = .ok (.iinc 4 1, 3) := by decide +kernel
theorem dX4_digest_71 : decode cX4_digest 71 = .ok (.goto (-24), 3) := by decide +kernel
theorem dX4_digest_74 : decode cX4_digest 74 = .ok (.iinc 3 1, 3) := by decide +kernel
theorem dX4_digest_77 : decode cX4_digest 77 = .ok (.goto (-44), 3) := by decide +kernel
theorem dX4_digest_80 : decode cX4_digest 80 = .ok (.iconst 0, 1) := by decide +kernel
theorem dX4_digest_81 : decode cX4_digest 81 = .ok (.istore_n 3, 1) := by decide +kernel
theorem dX4_digest_82 : decode cX4_digest 82 = .ok (.iload_n 3, 1) := by decide +kernel
theorem dX4_digest_83 : decode cX4_digest 83 = .ok (.iconst 3, 1) := by decide +kernel
theorem dX4_digest_84 : decode cX4_digest 84 = .ok (.if_icmp .ge 26, 3) := by decide +kernel
theorem dX4_digest_87 : decode cX4_digest 87 = .ok (.ldc2_w 272, 3) := by decide +kernel
theorem dX4_digest_90 : decode cX4_digest 90 = .ok (.lload_n 1, 1) := by decide +kernel
theorem dX4_digest_91 : decode cX4_digest 91 = .ok (.lmul, 1) := by decide +kernel
theorem dX4_digest_92 : decode cX4_digest 92 = .ok (.aload_n 0, 1) := by decide +kernel
theorem dX4_digest_93 : decode cX4_digest 93 = .ok (.getfield 39, 3) := by decide +kernel
theorem dX4_digest_96 : decode cX4_digest 96 = .ok (.iload_n 3, 1) := by decide +kernel
theorem dX4_digest_97 : decode cX4_digest 97 = .ok (.aaload, 1) := by decide +kernel
theorem dX4_digest_98 : decode cX4_digest 98 = .ok (.getfield 72, 3) := by decide +kernel
theorem dX4_digest_101 : decode cX4_digest 101 = .ok (.i2l, 1) := by decide +kernel
theorem dX4_digest_102 : decode cX4_digest 102 = .ok (.ladd, 1) := by decide +kernel
theorem dX4_digest_103 : decode cX4_digest 103 = .ok (.lstore_n 1, 1) := by decide +kernel
theorem dX4_digest_104 : decode cX4_digest 104 = .ok (.iinc 3 1, 3) := by decide +kernel
theorem dX4_digest_107 : decode cX4_digest 107 = .ok (.goto (-25), 3) := by decide +kernel
theorem dX4_digest_110 : decode cX4_digest 110 = .ok (.iconst 0, 1) := by decide +kernel
theorem dX4_digest_111 : decode cX4_digest 111 = .ok (.istore_n 3, 1) := by decide +kernel
theorem dX4_digest_112 : decode cX4_digest 112 = .ok (.iload_n 3, 1) := by decide +kernel
theorem dX4_digest_113 : decode cX4_digest 113 = .ok (.bipush 6, 2) := by decide +kernel
theorem dX4_digest_115 : decode cX4_digest 115 = .ok (.if_icmp .ge 20, 3) := by decide +kernel
theorem dX4_digest_118 : decode cX4_digest 118 = .ok (.aload_n 0, 1) := by decide +kernel
theorem dX4_digest_119 : decode cX4_digest 119 = .ok (.getfield 11, 3) := by decide +kernel
theorem dX4_digest_122 : decode cX4_digest 122 = .ok (.iload_n 3, 1) := by decide +kernel
theorem dX4_digest_123 : decode cX4_digest 123 = .ok (.aaload, 1) := by decide +kernel
theorem dX4_digest_124 : decode cX4_digest 124 = .ok (.lload_n 1, 1) := by decide +kernel
theorem dX4_digest_125 : decode cX4_digest 125 = .ok (.invokevirtual 276, 3) := by decide +kernel
theorem dX4_digest_128 : decode cX4_digest 128 = .ok (.lstore_n 1, 1) := by decide +kernel
theorem dX4_digest_129 : decode cX4_digest 129 = .ok (.iinc 3 1, 3) := by decide +kernel
theorem dX4_digest_132 : decode cX4_digest 132 = .ok (.goto (-20), 3) := by decide +kernel
theorem dX4_digest_135 : decode cX4_digest 135 = .ok (.iconst 0, 1) := by decide +kernel
theorem dX4_digest_136 : decode cX4_digest 136 = .ok (.istore_n 3, 1) := by decide +kernel
theorem dX4_digest_137 : decode cX4_digest 137 = .ok (.iload_n 3, 1) := by decide +kernel
theorem dX4_digest_138 : decode cX4_digest 138 = .ok (.iconst 4, 1) := by decide +kernel
theorem dX4_digest_139 : decode cX4_digest 139 = .ok (.if_icmp .ge 20, 3) := by decide +kernel
theorem dX4_digest_142 : decode cX4_digest 142 = .ok (.aload_n 0, 1) := by decide +kernel
theorem dX4_digest_143 : decode cX4_digest 143 = .ok (.getfield 15, 3) := by decide +kernel
theorem dX4_digest_146 : decode cX4_digest 146 = .ok (.iload_n 3, 1) := by decide +kernel
theorem dX4_digest_147 : decode cX4_digest 147 = .ok (.aaload, 1) := by decide +kernel
theorem dX4_digest_148 : decode cX4_digest 148 = .ok (.lload_n 1, 1) := by decide +kernel
theorem dX4_digest_149 : decode cX4_digest 149 = .ok (.invokevirtual 276, 3) := by decide +kernel
theorem dX4_digest_152 : decode cX4_digest 152 = .ok (.lstore_n 1, 1) := by decide +kernel
theorem dX4_digest_153 : decode cX4_digest 153 = .ok (.iinc 3 1, 3) := by decide +kernel
theorem dX4_digest_156 : decode cX4_digest 156 = .ok (.goto (-19), 3) := by decide +kernel
theorem dX4_digest_159 : decode cX4_digest 159 = .ok (.lload_n 1, 1) := by decide +kernel
theorem dX4_digest_160 : decode cX4_digest 160 = .ok (.lreturn, 1) := by decide +kernel
theorem dX4_within_0 : decode cX4_within 0 = .ok (.iload_n 1, 1) := by decide +kernel
theorem dX4_within_1 : decode cX4_within 1 = .ok (.iload_n 0, 1) := by decide +kernel
theorem dX4_within_2 : decode cX4_within 2 = .ok (.if_icmp .gt 12, 3) := by decide +kernel
theorem dX4_within_5 : decode cX4_within 5 = .ok (.iload_n 0, 1) := by decide +kernel
theorem dX4_within_6 : decode cX4_within 6 = .ok (.iload_n 2, 1) := by decide +kernel
theorem dX4_within_7 : decode cX4_within 7 = .ok (.if_icmp .gt 7, 3) := by decide +kernel
theorem dX4_within_10 : decode cX4_within 10 = .ok (.iconst 1, 1) := by decide +kernel
theorem dX4_within_11 : decode cX4_within 11 = .ok (.goto 4, 3) := by decide +kernel
theorem dX4_within_14 : decode cX4_within 14 = .ok (.iconst 0, 1) := by decide +kernel
theorem dX4_within_15 : decode cX4_within 15 = .ok (.ireturn, 1) := by decide +kernel
theorem dX4_isRow_0 : decode cX4_isRow 0 = .ok (.iload_n 0, 1) := by decide +kernel
theorem dX4_isRow_1 : decode cX4_isRow 1 = .ok (.iconst 0, 1) := by decide +kernel
theorem dX4_isRow_2 : decode cX4_isRow 2 = .ok (.iconst 5, 1) := by decide +kernel
theorem dX4_isRow_3 : decode cX4_isRow 3 = .ok (.invokestatic 133, 3) := by decide +kernel
theorem dX4_isRow_6 : decode cX4_isRow 6 = .ok (.ireturn, 1) := by decide +kernel
theorem dX4_isText_0 : decode cX4_isText 0 = .ok (.iload_n 0, 1) := by decide +kernel
theorem dX4_isText_1 : decode cX4_isText 1 = .ok (.iconst 0, 1) := by decide +kernel
theorem dX4_isText_2 : decode cX4_isText 2 = .ok (.iconst 3, 1) := by decide +kernel
theorem dX4_isText_3 : decode cX4_isText 3 = .ok (.invokestatic 133, 3) := by decide +kernel
theorem dX4_isText_6 : decode cX4_isText 6 = .ok (.ireturn, 1) := by decide +kernel
theorem dX4_isPlace_0 : decode cX4_isPlace 0 = .ok (.iload_n 0, 1) := by decide +kernel
theorem dX4_isPlace_1 : decode cX4_isPlace 1 = .ok (.iconst 0, 1) := by decide +kernel
theorem dX4_isPlace_2 : decode cX4_isPlace 2 = .ok (.iconst 2, 1) := by decide +kernel
theorem dX4_isPlace_3 : decode cX4_isPlace 3 = .ok (.invokestatic 133, 3) := by decide +kernel
theorem dX4_isPlace_6 : decode cX4_isPlace 6 = .ok (.ireturn, 1) := by decide +kernel
theorem dX4_isDay_0 : decode cX4_isDay 0 = .ok (.iload_n 1, 1) := by decide +kernel
theorem dX4_isDay_1 : decode cX4_isDay 1 = .ok (.iconst 0, 1) := by decide +kernel
theorem dX4_isDay_2 : decode cX4_isDay 2 = .ok (.aload_n 0, 1) := by decide +kernel
theorem dX4_isDay_3 : decode cX4_isDay 3 = .ok (.getfield 21, 3) := by decide +kernel
theorem dX4_isDay_6 : decode cX4_isDay 6 = .ok (.getfield 129, 3) := by decide +kernel
theorem dX4_isDay_9 : decode cX4_isDay 9 = .ok (.iconst 1, 1) := by decide +kernel
theorem dX4_isDay_10 : decode cX4_isDay 10 = .ok (.isub, 1) := by decide +kernel
theorem dX4_isDay_11 : decode cX4_isDay 11 = .ok (.invokestatic 133, 3) := by decide +kernel
theorem dX4_isDay_14 : decode cX4_isDay 14 = .ok (.ireturn, 1) := by decide +kernel
theorem dX4_noDays_0 : decode cX4_noDays 0 = .ok (.aload_n 0, 1) := by decide +kernel
theorem dX4_noDays_1 : decode cX4_noDays 1 = .ok (.getfield 21, 3) := by decide +kernel
theorem dX4_noDays_4 : decode cX4_noDays 4 = .ok (.getfield 129, 3) := by decide +kernel
theorem dX4_noDays_7 : decode cX4_noDays 7 = .ok (.ifCond .ne 7, 3) := by decide +kernel
theorem dX4_noDays_10 : decode cX4_noDays 10 = .ok (.iconst 1, 1) := by decide +kernel
theorem dX4_noDays_11 : decode cX4_noDays 11 = .ok (.goto 4, 3) := by decide +kernel
theorem dX4_noDays_14 : decode cX4_noDays 14 = .ok (.iconst 0, 1) := by decide +kernel
theorem dX4_noDays_15 : decode cX4_noDays 15 = .ok (.ireturn, 1) := by decide +kernel
theorem dX4_found_0 : decode cX4_found 0 = .ok (.aload_n 0, 1) := by decide +kernel
theorem dX4_found_1 : decode cX4_found 1 = .ok (.iload_n 1, 1) := by decide +kernel
theorem dX4_found_2 : decode cX4_found 2 = .ok (.putfield 64, 3) := by decide +kernel
theorem dX4_found_5 : decode cX4_found 5 = .ok (.aload_n 0, 1) := by decide +kernel
theorem dX4_found_6 : decode cX4_found 6 = .ok (.getfield 67, 3) := by decide +kernel
theorem dX4_found_9 : decode cX4_found 9 = .ok (.iload_n 1, 1) := by decide +kernel
theorem dX4_found_10 : decode cX4_found 10 = .ok (.dup2, 1) := by decide +kernel
theorem dX4_found_11 : decode cX4_found 11 = .ok (.iaload, 1) := by decide +kernel
theorem dX4_found_12 : decode cX4_found 12 = .ok (.iconst 1, 1) := by decide +kernel
theorem dX4_found_13 : decode cX4_found 13 = .ok (.iadd, 1) := by decide +kernel
theorem dX4_found_14 : decode cX4_found 14 = .ok (.iastore, 1) := by decide +kernel
theorem dX4_found_15 : decode cX4_found 15 = .ok (.bipush (-3), 2) := by decide +kernel
theorem dX4_found_17 : decode cX4_found 17 = .ok (.ireturn, 1) := by decide +kernel
theorem dX4_missingPlace_0 : decode cX4_missingPlace 0 = .ok (.aload_n 0, 1) := by decide +kernel
theorem dX4_missingPlace_1 : decode cX4_missingPlace 1 = .ok (.invokevirtual 94, 3) := by decide +kernel
theorem dX4_missingPlace_4 : decode cX4_missingPlace 4 = .ok (.ifCond .ne 5, 3) := by decide +kernel
theorem dX4_missingPlace_7 : decode cX4_missingPlace 7 = .ok (.iconst 1, 1) := by decide +kernel
theorem dX4_missingPlace_8 : decode cX4_missingPlace 8 = .ok (.ireturn, 1) := by decide +kernel
theorem dX4_missingPlace_9 : decode cX4_missingPlace 9 = .ok (.aload_n 0, 1) := by decide +kernel
theorem dX4_missingPlace_10 : decode cX4_missingPlace 10 = .ok (.iload_n 1, 1) := by decide +kernel
theorem dX4_missingPlace_11 : decode cX4_missingPlace 11 = .ok (.iconst 1, 1) := by decide +kernel
theorem dX4_missingPlace_12 : decode cX4_missingPlace 12 = .ok (.invokevirtual 101, 3) := by decide +kernel
theorem dX4_missingPlace_15 : decode cX4_missingPlace 15 = .ok (.ifCond .eq 7, 3) := by decide +kernel
theorem dX4_missingPlace_18 : decode cX4_missingPlace 18 = .ok (.iconst 0, 1) := by decide +kernel
theorem dX4_missingPlace_19 : decode cX4_missingPlace 19 = .ok (.goto 4, 3) := by decide +kernel
theorem dX4_missingPlace_22 : decode cX4_missingPlace 22 = .ok (.iconst 2, 1) := by decide +kernel
theorem dX4_missingPlace_23 : decode cX4_missingPlace 23 = .ok (.ireturn, 1) := by decide +kernel
theorem dX4_wrongNumbers_0 : decode cX4_wrongNumbers 0 = .ok (.aload_n 0, 1) := by decide +kernel
theorem dX4_wrongNumbers_1 : decode cX4_wrongNumbers 1 = .ok (.invokevirtual 94, 3) := by decide +kernel
theorem dX4_wrongNumbers_4 : decode cX4_wrongNumbers 4 = .ok (.ifCond .ne 5, 3) := by decide +kernel
theorem dX4_wrongNumbers_7 : decode cX4_wrongNumbers 7 = .ok (.iconst 1, 1) := by decide +kernel
theorem dX4_wrongNumbers_8 : decode cX4_wrongNumbers 8 = .ok (.ireturn, 1) := by decide +kernel
theorem dX4_wrongNumbers_9 : decode cX4_wrongNumbers 9 = .ok (.aload_n 0, 1) := by decide +kernel
theorem dX4_wrongNumbers_10 : decode cX4_wrongNumbers 10 = .ok (.getfield 98, 3) := by decide +kernel
theorem dX4_wrongNumbers_13 : decode cX4_wrongNumbers 13 = .ok (.iconst 1, 1) := by decide +kernel
theorem dX4_wrongNumbers_14 : decode cX4_wrongNumbers 14 = .ok (.bipush 20, 2) := by decide +kernel
theorem dX4_wrongNumbers_16 : decode cX4_wrongNumbers 16 = .ok (.invokestatic 133, 3) := by decide +kernel
theorem dX4_wrongNumbers_19 : decode cX4_wrongNumbers 19 = .ok (.ifCond .ne 5, 3) := by decide +kernel
theorem dX4_wrongNumbers_22 : decode cX4_wrongNumbers 22 = .ok (.iconst 5, 1) := by decide +kernel
theorem dX4_wrongNumbers_23 : decode cX4_wrongNumbers 23 = .ok (.ireturn, 1) := by decide +kernel
theorem dX4_wrongNumbers_24 : decode cX4_wrongNumbers 24 = .ok (.iconst 0, 1) := by decide +kernel
theorem dX4_wrongNumbers_25 : decode cX4_wrongNumbers 25 = .ok (.istore_n 1, 1) := by decide +kernel
theorem dX4_wrongNumbers_26 : decode cX4_wrongNumbers 26 = .ok (.iload_n 1, 1) := by decide +kernel
theorem dX4_wrongNumbers_27 : decode cX4_wrongNumbers 27 = .ok (.aload_n 0, 1) := by decide +kernel
theorem dX4_wrongNumbers_28 : decode cX4_wrongNumbers 28 = .ok (.getfield 98, 3) := by decide +kernel
theorem dX4_wrongNumbers_31 : decode cX4_wrongNumbers 31 = .ok (.if_icmp .ge 20, 3) := by decide +kernel
theorem dX4_wrongNumbers_34 : decode cX4_wrongNumbers 34 = .ok (.aload_n 0, 1) := by decide +kernel
theorem dX4_wrongNumbers_35 : decode cX4_wrongNumbers 35 = .ok (.getfield 91, 3) := by decide +kernel
theorem dX4_wrongNumbers_38 : decode cX4_wrongNumbers 38 = .ok (.iload_n 1, 1) := by decide +kernel
theorem dX4_wrongNumbers_39 : decode cX4_wrongNumbers 39 = .ok (.iaload, 1) := by decide +kernel
theorem dX4_wrongNumbers_40 : decode cX4_wrongNumbers 40 = .ok (.ifCond .ge 5, 3) := by decide +kernel
theorem dX4_wrongNumbers_43 : decode cX4_wrongNumbers 43 = .ok (.iconst 3, 1) := by decide +kernel
theorem dX4_wrongNumbers_44 : decode cX4_wrongNumbers 44 = .ok (.ireturn, 1) := by decide +kernel
theorem dX4_wrongNumbers_45 : decode cX4_wrongNumbers 45 = .ok (.iinc 1 1, 3) := by decide +kernel
theorem dX4_wrongNumbers_48 : decode cX4_wrongNumbers 48 = .ok (.goto (-22), 3) := by decide +kernel
theorem dX4_wrongNumbers_51 : decode cX4_wrongNumbers 51 = .ok (.iconst 0, 1) := by decide +kernel
theorem dX4_wrongNumbers_52 : decode cX4_wrongNumbers 52 = .ok (.ireturn, 1) := by decide +kernel
theorem dX4_faultOf_0 : decode cX4_faultOf 0 = .ok (.iconst 0, 1) := by decide +kernel
theorem dX4_faultOf_1 : decode cX4_faultOf 1 = .ok (.istore_n 1, 1) := by decide +kernel
theorem dX4_faultOf_2 : decode cX4_faultOf 2 = .ok (.iconst 0, 1) := by decide +kernel
theorem dX4_faultOf_3 : decode cX4_faultOf 3 = .ok (.istore_n 2, 1) := by decide +kernel
theorem dX4_faultOf_4 : decode cX4_faultOf 4 = .ok (.iload_n 2, 1) := by decide +kernel
theorem dX4_faultOf_5 : decode cX4_faultOf 5 = .ok (.aload_n 0, 1) := by decide +kernel
theorem dX4_faultOf_6 : decode cX4_faultOf 6 = .ok (.getfield 98, 3) := by decide +kernel
theorem dX4_faultOf_9 : decode cX4_faultOf 9 = .ok (.if_icmp .ge 53, 3) := by decide +kernel
theorem dX4_faultOf_12 : decode cX4_faultOf 12 = .ok (.aload_n 0, 1) := by decide +kernel
theorem dX4_faultOf_13 : decode cX4_faultOf 13 = .ok (.getfield 91, 3) := by decide +kernel
theorem dX4_faultOf_16 : decode cX4_faultOf 16 = .ok (.iload_n 2, 1) := by decide +kernel
theorem dX4_faultOf_17 : decode cX4_faultOf 17 = .ok (.iaload, 1) := by decide +kernel
theorem dX4_faultOf_18 : decode cX4_faultOf 18 = .ok (.bipush 32, 2) := by decide +kernel
theorem dX4_faultOf_20 : decode cX4_faultOf 20 = .ok (.if_icmp .ne 9, 3) := by decide +kernel
theorem dX4_faultOf_23 : decode cX4_faultOf 23 = .ok (.iinc 2 1, 3) := by decide +kernel
theorem dX4_faultOf_26 : decode cX4_faultOf 26 = .ok (.goto (-22), 3) := by decide +kernel
theorem dX4_faultOf_29 : decode cX4_faultOf 29 = .ok (.iload_n 1, 1) := by decide +kernel
theorem dX4_faultOf_30 : decode cX4_faultOf 30 = .ok (.bipush 9, 2) := by decide +kernel
theorem dX4_faultOf_32 : decode cX4_faultOf 32 = .ok (.if_icmp .ne 7, 3) := by decide +kernel
theorem dX4_faultOf_35 : decode cX4_faultOf 35 = .ok (.iload_n 2, 1) := by decide +kernel
theorem dX4_faultOf_36 : decode cX4_faultOf 36 = .ok (.goto 8, 3) := by decide +kernel
theorem dX4_faultOf_39 : decode cX4_faultOf 39 = .ok (.aload_n 0, 1) := by decide +kernel
theorem dX4_faultOf_40 : decode cX4_faultOf 40 = .ok (.iload_n 2, 1) := by decide +kernel
theorem dX4_faultOf_41 : decode cX4_faultOf 41 = .ok (.invokestatic 280, 3) := by decide +kernel
theorem dX4_faultOf_44 : decode cX4_faultOf 44 = .ok (.istore_n 3, 1) := by decide +kernel
theorem dX4_faultOf_45 : decode cX4_faultOf 45 = .ok (.iload_n 3, 1) := by decide +kernel
theorem dX4_faultOf_46 : decode cX4_faultOf 46 = .ok (.bipush (-9), 2) := by decide +kernel
theorem dX4_faultOf_48 : decode cX4_faultOf 48 = .ok (.if_icmp .eq 5, 3) := by decide +kernel
theorem dX4_faultOf_51 : decode cX4_faultOf 51 = .ok (.iload_n 3, 1) := by decide +kernel
theorem dX4_faultOf_52 : decode cX4_faultOf 52 = .ok (.ireturn, 1) := by decide +kernel
theorem dX4_faultOf_53 : decode cX4_faultOf 53 = .ok (.iinc 1 1, 3) := by decide +kernel
theorem dX4_faultOf_56 : decode cX4_faultOf 56 = .ok (.iinc 2 3, 3) := by decide +kernel
theorem dX4_faultOf_59 : decode cX4_faultOf 59 = .ok (.goto (-55), 3) := by decide +kernel
theorem dX4_faultOf_62 : decode cX4_faultOf 62 = .ok (.iload_n 1, 1) := by decide +kernel
theorem dX4_faultOf_63 : decode cX4_faultOf 63 = .ok (.iconst 2, 1) := by decide +kernel
theorem dX4_faultOf_64 : decode cX4_faultOf 64 = .ok (.if_icmp .ge 10, 3) := by decide +kernel
theorem dX4_faultOf_67 : decode cX4_faultOf 67 = .ok (.aload_n 0, 1) := by decide +kernel
theorem dX4_faultOf_68 : decode cX4_faultOf 68 = .ok (.getfield 98, 3) := by decide +kernel
theorem dX4_faultOf_71 : decode cX4_faultOf 71 = .ok (.goto 5, 3) := by decide +kernel
theorem dX4_faultOf_74 : decode cX4_faultOf 74 = .ok (.bipush (-9), 2) := by decide +kernel
theorem dX4_faultOf_76 : decode cX4_faultOf 76 = .ok (.ireturn, 1) := by decide +kernel
theorem dX4_faultOfItem_0 : decode cX4_faultOfItem 0 = .ok (.aload_n 0, 1) := by decide +kernel
theorem dX4_faultOfItem_1 : decode cX4_faultOfItem 1 = .ok (.getfield 91, 3) := by decide +kernel
theorem dX4_faultOfItem_4 : decode cX4_faultOfItem 4 = .ok (.iload_n 1, 1) := by decide +kernel
theorem dX4_faultOfItem_5 : decode cX4_faultOfItem 5 = .ok (.iaload, 1) := by decide +kernel
theorem dX4_faultOfItem_6 : decode cX4_faultOfItem 6 = .ok (.invokestatic 283, 3) := by decide +kernel
theorem dX4_faultOfItem_9 : decode cX4_faultOfItem 9 = .ok (.bipush (-9), 2) := by decide +kernel
theorem dX4_faultOfItem_11 : decode cX4_faultOfItem 11 = .ok (.if_icmp .ne 5, 3) := by decide +kernel
theorem dX4_faultOfItem_14 : decode cX4_faultOfItem 14 = .ok (.iload_n 1, 1) := by decide +kernel
theorem dX4_faultOfItem_15 : decode cX4_faultOfItem 15 = .ok (.ireturn, 1) := by decide +kernel
theorem dX4_faultOfItem_16 : decode cX4_faultOfItem 16 = .ok (.iload_n 1, 1) := by decide +kernel
theorem dX4_faultOfItem_17 : decode cX4_faultOfItem 17 = .ok (.iconst 1, 1) := by decide +kernel
theorem dX4_faultOfItem_18 : decode cX4_faultOfItem 18 = .ok (.iadd, 1) := by decide +kernel
theorem dX4_faultOfItem_19 : decode cX4_faultOfItem 19 = .ok (.istore_n 2, 1) := by decide +kernel
theorem dX4_faultOfItem_20 : decode cX4_faultOfItem 20 = .ok (.iload_n 2, 1) := by decide +kernel
theorem dX4_faultOfItem_21 : decode cX4_faultOfItem 21 = .ok (.iload_n 1, 1) := by decide +kernel
theorem dX4_faultOfItem_22 : decode cX4_faultOfItem 22 = .ok (.iconst 2, 1) := by decide +kernel
theorem dX4_faultOfItem_23 : decode cX4_faultOfItem 23 = .ok (.iadd, 1) := by decide +kernel
theorem dX4_faultOfItem_24 : decode cX4_faultOfItem 24 = .ok (.if_icmp .gt 40, 3) := by decide +kernel
theorem dX4_faultOfItem_27 : decode cX4_faultOfItem 27 = .ok (.iload_n 2, 1) := by decide +kernel
theorem dX4_faultOfItem_28 : decode cX4_faultOfItem 28 = .ok (.aload_n 0, 1) := by decide +kernel
theorem dX4_faultOfItem_29 : decode cX4_faultOfItem 29 = .ok (.getfield 98, 3) := by decide +kernel
theorem dX4_faultOfItem_32 : decode cX4_faultOfItem 32 = .ok (.if_icmp .lt 8, 3) := by decide +kernel
theorem dX4_faultOfItem_35 : decode cX4_faultOfItem 35 = .ok (.aload_n 0, 1) := by decide +kernel
theorem dX4_faultOfItem_36 : decode cX4_faultOfItem 36 = .ok (.getfield 98, 3) := by decide +kernel
theorem dX4_faultOfItem_39 : decode cX4_faultOfItem 39 = .ok (.ireturn, 1) := by decide +kernel
theorem dX4_faultOfItem_40 : decode cX4_faultOfItem 40 = .ok (.aload_n 0, 1) := by decide +kernel
theorem dX4_faultOfItem_41 : decode cX4_faultOfItem 41 = .ok (.getfield 91, 3) := by decide +kernel
theorem dX4_faultOfItem_44 : decode cX4_faultOfItem 44 = .ok (.iload_n 2, 1) := by decide +kernel
theorem dX4_faultOfItem_45 : decode cX4_faultOfItem 45 = .ok (.iaload, 1) := by decide +kernel
theorem dX4_faultOfItem_46 : decode cX4_faultOfItem 46 = .ok (.bipush 48, 2) := by decide +kernel
theorem dX4_faultOfItem_48 : decode cX4_faultOfItem 48 = .ok (.bipush 57, 2) := by decide +kernel
theorem dX4_faultOfItem_50 : decode cX4_faultOfItem 50 = .ok (.invokestatic 133, 3) := by decide +kernel
theorem dX4_faultOfItem_53 : decode cX4_faultOfItem 53 = .ok (.ifCond .ne 5, 3) := by decide +kernel
theorem dX4_faultOfItem_56 : decode cX4_faultOfItem 56 = .ok (.iload_n 2, 1) := by decide +kernel
theorem dX4_faultOfItem_57 : decode cX4_faultOfItem 57 = .ok (.ireturn, 1) := by decide +kernel
theorem dX4_faultOfItem_58 : decode cX4_faultOfItem 58 = .ok (.iinc 2 1, 3) := by decide +kernel
theorem dX4_faultOfItem_61 : decode cX4_faultOfItem 61 = .ok (.goto (-41), 3) := by decide +kernel
theorem dX4_faultOfItem_64 : decode cX4_faultOfItem 64 = .ok (.bipush (-9), 2) := by decide +kernel
theorem dX4_faultOfItem_66 : decode cX4_faultOfItem 66 = .ok (.ireturn, 1) := by decide +kernel
theorem dX4_kindByLetter_0 : decode cX4_kindByLetter 0 = .ok (.iload_n 0, 1) := by decide +kernel
theorem dX4_kindByLetter_1 : decode cX4_kindByLetter 1 = .ok (.tableswitch 87 100 114 #[75, 83, 77, 87, 85, 87, 87, 87, 87, 87, 87, 87, 81, 87, 79], 75) := by decide +kernel
theorem dX4_kindByLetter_76 : decode cX4_kindByLetter 76 = .ok (.iconst 0, 1) := by decide +kernel
theorem dX4_kindByLetter_77 : decode cX4_kindByLetter 77 = .ok (.ireturn, 1) := by decide +kernel
theorem dX4_kindByLetter_78 : decode cX4_kindByLetter 78 = .ok (.iconst 1, 1) := by decide +kernel
theorem dX4_kindByLetter_79 : decode cX4_kindByLetter 79 = .ok (.ireturn, 1) := by decide +kernel
theorem dX4_kindByLetter_80 : decode cX4_kindByLetter 80 = .ok (.iconst 2, 1) := by decide +kernel
theorem dX4_kindByLetter_81 : decode cX4_kindByLetter 81 = .ok (.ireturn, 1) := by decide +kernel
theorem dX4_kindByLetter_82 : decode cX4_kindByLetter 82 = .ok (.iconst 3, 1) := by decide +kernel
theorem dX4_kindByLetter_83 : decode cX4_kindByLetter 83 = .ok (.ireturn, 1) := by decide +kernel
theorem dX4_kindByLetter_84 : decode cX4_kindByLetter 84 = .ok (.iconst 4, 1) := by decide +kernel
theorem dX4_kindByLetter_85 : decode cX4_kindByLetter 85 = .ok (.ireturn, 1) := by decide +kernel
theorem dX4_kindByLetter_86 : decode cX4_kindByLetter 86 = .ok (.iconst 5, 1) := by decide +kernel
theorem dX4_kindByLetter_87 : decode cX4_kindByLetter 87 = .ok (.ireturn, 1) := by decide +kernel
theorem dX4_kindByLetter_88 : decode cX4_kindByLetter 88 = .ok (.bipush (-9), 2) := by decide +kernel
theorem dX4_kindByLetter_90 : decode cX4_kindByLetter 90 = .ok (.ireturn, 1) := by decide +kernel
theorem dX4_isOfKind_0 : decode cX4_isOfKind 0 = .ok (.iload_n 0, 1) := by decide +kernel
theorem dX4_isOfKind_1 : decode cX4_isOfKind 1 = .ok (.iload_n 1, 1) := by decide +kernel
theorem dX4_isOfKind_2 : decode cX4_isOfKind 2 = .ok (.if_icmp .eq 23, 3) := by decide +kernel
theorem dX4_isOfKind_5 : decode cX4_isOfKind 5 = .ok (.iload_n 0, 1) := by decide +kernel
theorem dX4_isOfKind_6 : decode cX4_isOfKind 6 = .ok (.iconst 4, 1) := by decide +kernel
theorem dX4_isOfKind_7 : decode cX4_isOfKind 7 = .ok (.if_icmp .ne 8, 3) := by decide +kernel
theorem dX4_isOfKind_10 : decode cX4_isOfKind 10 = .ok (.iload_n 1, 1) := by decide +kernel
theorem dX4_isOfKind_11 : decode cX4_isOfKind 11 = .ok (.iconst 1, 1) := by decide +kernel
theorem dX4_isOfKind_12 : decode cX4_isOfKind 12 = .ok (.if_icmp .eq 13, 3) := by decide +kernel
theorem dX4_isOfKind_15 : decode cX4_isOfKind 15 = .ok (.iload_n 0, 1) := by decide +kernel
theorem dX4_isOfKind_16 : decode cX4_isOfKind 16 = .ok (.iconst 5, 1) := by decide +kernel
theorem dX4_isOfKind_17 : decode cX4_isOfKind 17 = .ok (.if_icmp .ne 12, 3) := by decide +kernel
theorem dX4_isOfKind_20 : decode cX4_isOfKind 20 = .ok (.iload_n 1, 1) := by decide +kernel
theorem dX4_isOfKind_21 : decode cX4_isOfKind 21 = .ok (.iconst 3, 1) := by decide +kernel
theorem dX4_isOfKind_22 : decode cX4_isOfKind 22 = .ok (.if_icmp .ne 7, 3) := by decide +kernel
theorem dX4_isOfKind_25 : decode cX4_isOfKind 25 = .ok (.iconst 1, 1) := by decide +kernel
theorem dX4_isOfKind_26 : decode cX4_isOfKind 26 = .ok (.goto 4, 3) := by decide +kernel
theorem dX4_isOfKind_29 : decode cX4_isOfKind 29 = .ok (.iconst 0, 1) := by decide +kernel
theorem dX4_isOfKind_30 : decode cX4_isOfKind 30 = .ok (.ireturn, 1) := by decide +kernel
theorem dX4_markOf_0 : decode cX4_markOf 0 = .ok (.iload_n 2, 1) := by decide +kernel
theorem dX4_markOf_1 : decode cX4_markOf 1 = .ok (.tableswitch 48 3 5 #[27, 34, 41], 27) := by decide +kernel
theorem dX4_markOf_28 : decode cX4_markOf 28 = .ok (.aload_n 0, 1) := by decide +kernel
theorem dX4_markOf_29 : decode cX4_markOf 29 = .ok (.iload_n 1, 1) := by decide +kernel
theorem dX4_markOf_30 : decode cX4_markOf 30 = .ok (.iconst 0, 1) := by decide +kernel
theorem dX4_markOf_31 : decode cX4_markOf 31 = .ok (.invokevirtual 286, 3) := by decide +kernel
theorem dX4_markOf_34 : decode cX4_markOf 34 = .ok (.ireturn, 1) := by decide +kernel
theorem dX4_markOf_35 : decode cX4_markOf 35 = .ok (.aload_n 0, 1) := by decide +kernel
theorem dX4_markOf_36 : decode cX4_markOf 36 = .ok (.iload_n 1, 1) := by decide +kernel
theorem dX4_markOf_37 : decode cX4_markOf 37 = .ok (.iconst 1, 1) := by decide +kernel
theorem dX4_markOf_38 : decode cX4_markOf 38 = .ok (.invokevirtual 289, 3) := by decide +kernel
theorem dX4_markOf_41 : decode cX4_markOf 41 = .ok (.ireturn, 1) := by decide +kernel
theorem dX4_markOf_42 : decode cX4_markOf 42 = .ok (.aload_n 0, 1) := by decide +kernel
theorem dX4_markOf_43 : decode cX4_markOf 43 = .ok (.iload_n 1, 1) := by decide +kernel
theorem dX4_markOf_44 : decode cX4_markOf 44 = .ok (.iconst 3, 1) := by decide +kernel
theorem dX4_markOf_45 : decode cX4_markOf 45 = .ok (.invokevirtual 286, 3) := by decide +kernel
theorem dX4_markOf_48 : decode cX4_markOf 48 = .ok (.ireturn, 1) := by decide +kernel
theorem dX4_markOf_49 : decode cX4_markOf 49 = .ok (.aload_n 0, 1) := by decide +kernel
theorem dX4_markOf_50 : decode cX4_markOf 50 = .ok (.iload_n 1, 1) := by decide +kernel
theorem dX4_markOf_51 : decode cX4_markOf 51 = .ok (.iconst 0, 1) := by decide +kernel
theorem dX4_markOf_52 : decode cX4_markOf 52 = .ok (.invokevirtual 289, 3) := by decide +kernel
theorem dX4_markOf_55 : decode cX4_markOf 55 = .ok (.ireturn, 1) := by decide +kernel
theorem dX4_grindsMoreThan_0 : decode cX4_grindsMoreThan 0 = .ok (.aload_n 0, 1) := by decide +kernel
theorem dX4_grindsMoreThan_1 : decode cX4_grindsMoreThan 1 = .ok (.getfield 43, 3) := by decide +kernel
theorem dX4_grindsMoreThan_4 : decode cX4_grindsMoreThan 4 = .ok (.aload_n 0, 1) := by decide +kernel
theorem dX4_grindsMoreThan_5 : decode cX4_grindsMoreThan 5 = .ok (.getfield 21, 3) := by decide +kernel
theorem dX4_grindsMoreThan_8 : decode cX4_grindsMoreThan 8 = .ok (.invokevirtual 207, 3) := by decide +kernel
theorem dX4_grindsMoreThan_11 : decode cX4_grindsMoreThan 11 = .ok (.aload_n 0, 1) := by decide +kernel
theorem dX4_grindsMoreThan_12 : decode cX4_grindsMoreThan 12 = .ok (.getfield 43, 3) := by decide +kernel
theorem dX4_grindsMoreThan_15 : decode cX4_grindsMoreThan 15 = .ok (.getfield 141, 3) := by decide +kernel
theorem dX4_grindsMoreThan_18 : decode cX4_grindsMoreThan 18 = .ok (.iload_n 1, 1) := by decide +kernel
theorem dX4_grindsMoreThan_19 : decode cX4_grindsMoreThan 19 = .ok (.iload_n 2, 1) := by decide +kernel
theorem dX4_grindsMoreThan_20 : decode cX4_grindsMoreThan 20 = .ok (.iastore, 1) := by decide +kernel
theorem dX4_grindsMoreThan_21 : decode cX4_grindsMoreThan 21 = .ok (.aload_n 0, 1) := by decide +kernel
theorem dX4_grindsMoreThan_22 : decode cX4_grindsMoreThan 22 = .ok (.getfield 21, 3) := by decide +kernel
theorem dX4_grindsMoreThan_25 : decode cX4_grindsMoreThan 25 = .ok (.iload_n 1, 1) := by decide +kernel
theorem dX4_grindsMoreThan_26 : decode cX4_grindsMoreThan 26 = .ok (.aload_n 0, 1) := by decide +kernel
theorem dX4_grindsMoreThan_27 : decode cX4_grindsMoreThan 27 = .ok (.getfield 28, 3) := by decide +kernel
theorem dX4_grindsMoreThan_30 : decode cX4_grindsMoreThan 30 = .ok (.getfield 166, 3) := by decide +kernel
theorem dX4_grindsMoreThan_33 : decode cX4_grindsMoreThan 33 = .ok (.aload_n 0, 1) := by decide +kernel
theorem dX4_grindsMoreThan_34 : decode cX4_grindsMoreThan 34 = .ok (.getfield 28, 3) := by decide +kernel
theorem dX4_grindsMoreThan_37 : decode cX4_grindsMoreThan 37 = .ok (.getfield 169, 3) := by decide +kernel
theorem dX4_grindsMoreThan_40 : decode cX4_grindsMoreThan 40 = .ok (.invokevirtual 150, 3) := by decide +kernel
theorem dX4_grindsMoreThan_43 : decode cX4_grindsMoreThan 43 = .ok (.aload_n 0, 1) := by decide +kernel
theorem dX4_grindsMoreThan_44 : decode cX4_grindsMoreThan 44 = .ok (.getfield 43, 3) := by decide +kernel
theorem dX4_grindsMoreThan_47 : decode cX4_grindsMoreThan 47 = .ok (.iload_n 1, 1) := by decide +kernel
theorem dX4_grindsMoreThan_48 : decode cX4_grindsMoreThan 48 = .ok (.aload_n 0, 1) := by decide +kernel
theorem dX4_grindsMoreThan_49 : decode cX4_grindsMoreThan 49 = .ok (.getfield 28, 3) := by decide +kernel
theorem dX4_grindsMoreThan_52 : decode cX4_grindsMoreThan 52 = .ok (.getfield 166, 3) := by decide +kernel
theorem dX4_grindsMoreThan_55 : decode cX4_grindsMoreThan 55 = .ok (.aload_n 0, 1) := by decide +kernel
theorem dX4_grindsMoreThan_56 : decode cX4_grindsMoreThan 56 = .ok (.getfield 28, 3) := by decide +kernel
theorem dX4_grindsMoreThan_59 : decode cX4_grindsMoreThan 59 = .ok (.getfield 169, 3) := by decide +kernel
theorem dX4_grindsMoreThan_62 : decode cX4_grindsMoreThan 62 = .ok (.invokevirtual 150, 3) := by decide +kernel
theorem dX4_grindsMoreThan_65 : decode cX4_grindsMoreThan 65 = .ok (.isub, 1) := by decide +kernel
theorem dX4_grindsMoreThan_66 : decode cX4_grindsMoreThan 66 = .ok (.ireturn, 1) := by decide +kernel
theorem dX4_leavesMoreThan_0 : decode cX4_leavesMoreThan 0 = .ok (.aload_n 0, 1) := by decide +kernel
theorem dX4_leavesMoreThan_1 : decode cX4_leavesMoreThan 1 = .ok (.getfield 43, 3) := by decide +kernel
theorem dX4_leavesMoreThan_4 : decode cX4_leavesMoreThan 4 = .ok (.aload_n 0, 1) := by decide +kernel
theorem dX4_leavesMoreThan_5 : decode cX4_leavesMoreThan 5 = .ok (.getfield 21, 3) := by decide +kernel
theorem dX4_leavesMoreThan_8 : decode cX4_leavesMoreThan 8 = .ok (.invokevirtual 207, 3) := by decide +kernel
theorem dX4_leavesMoreThan_11 : decode cX4_leavesMoreThan 11 = .ok (.aload_n 0, 1) := by decide +kernel
theorem dX4_leavesMoreThan_12 : decode cX4_leavesMoreThan 12 = .ok (.getfield 43, 3) := by decide +kernel
theorem dX4_leavesMoreThan_15 : decode cX4_leavesMoreThan 15 = .ok (.getfield 141, 3) := by decide +kernel
theorem dX4_leavesMoreThan_18 : decode cX4_leavesMoreThan 18 = .ok (.iload_n 1, 1) := by decide +kernel
theorem dX4_leavesMoreThan_19 : decode cX4_leavesMoreThan 19 = .ok (.iload_n 2, 1) := by decide +kernel
theorem dX4_leavesMoreThan_20 : decode cX4_leavesMoreThan 20 = .ok (.iastore, 1) := by decide +kernel
theorem dX4_leavesMoreThan_21 : decode cX4_leavesMoreThan 21 = .ok (.aload_n 0, 1) := by decide +kernel
theorem dX4_leavesMoreThan_22 : decode cX4_leavesMoreThan 22 = .ok (.getfield 21, 3) := by decide +kernel
theorem dX4_leavesMoreThan_25 : decode cX4_leavesMoreThan 25 = .ok (.iload_n 1, 1) := by decide +kernel
theorem dX4_leavesMoreThan_26 : decode cX4_leavesMoreThan 26 = .ok (.invokevirtual 292, 3) := by decide +kernel
theorem dX4_leavesMoreThan_29 : decode cX4_leavesMoreThan 29 = .ok (.aload_n 0, 1) := by decide +kernel
theorem dX4_leavesMoreThan_30 : decode cX4_leavesMoreThan 30 = .ok (.getfield 43, 3) := by decide +kernel
theorem dX4_leavesMoreThan_33 : decode cX4_leavesMoreThan 33 = .ok (.iload_n 1, 1) := by decide +kernel
theorem dX4_leavesMoreThan_34 : decode cX4_leavesMoreThan 34 = .ok (.invokevirtual 292, 3) := by decide +kernel
theorem dX4_leavesMoreThan_37 : decode cX4_leavesMoreThan 37 = .ok (.isub, 1) := by decide +kernel
theorem dX4_leavesMoreThan_38 : decode cX4_leavesMoreThan 38 = .ok (.ireturn, 1) := by decide +kernel
theorem dX4_toldOfDay_0 : decode cX4_toldOfDay 0 = .ok (.iload_n 2, 1) := by decide +kernel
theorem dX4_toldOfDay_1 : decode cX4_toldOfDay 1 = .ok (.tableswitch 96 0 4 #[35, 45, 55, 64, 87], 35) := by decide +kernel
theorem dX4_toldOfDay_36 : decode cX4_toldOfDay 36 = .ok (.aload_n 0, 1) := by decide +kernel
theorem dX4_toldOfDay_37 : decode cX4_toldOfDay 37 = .ok (.getfield 21, 3) := by decide +kernel
theorem dX4_toldOfDay_40 : decode cX4_toldOfDay 40 = .ok (.getfield 141, 3) := by decide +kernel
theorem dX4_toldOfDay_43 : decode cX4_toldOfDay 43 = .ok (.iload_n 1, 1) := by decide +kernel
theorem dX4_toldOfDay_44 : decode cX4_toldOfDay 44 = .ok (.iaload, 1) := by decide +kernel
theorem dX4_toldOfDay_45 : decode cX4_toldOfDay 45 = .ok (.ireturn, 1) := by decide +kernel
theorem dX4_toldOfDay_46 : decode cX4_toldOfDay 46 = .ok (.aload_n 0, 1) := by decide +kernel
theorem dX4_toldOfDay_47 : decode cX4_toldOfDay 47 = .ok (.getfield 21, 3) := by decide +kernel
theorem dX4_toldOfDay_50 : decode cX4_toldOfDay 50 = .ok (.getfield 221, 3) := by decide +kernel
theorem dX4_toldOfDay_53 : decode cX4_toldOfDay 53 = .ok (.iload_n 1, 1) := by decide +kernel
theorem dX4_toldOfDay_54 : decode cX4_toldOfDay 54 = .ok (.iaload, 1) := by decide +kernel
theorem dX4_toldOfDay_55 : decode cX4_toldOfDay 55 = .ok (.ireturn, 1) := by decide +kernel
theorem dX4_toldOfDay_56 : decode cX4_toldOfDay 56 = .ok (.aload_n 0, 1) := by decide +kernel
theorem dX4_toldOfDay_57 : decode cX4_toldOfDay 57 = .ok (.getfield 21, 3) := by decide +kernel
theorem dX4_toldOfDay_60 : decode cX4_toldOfDay 60 = .ok (.iload_n 1, 1) := by decide +kernel
theorem dX4_toldOfDay_61 : decode cX4_toldOfDay 61 = .ok (.invokevirtual 295, 3) := by decide +kernel
theorem dX4_toldOfDay_64 : decode cX4_toldOfDay 64 = .ok (.ireturn, 1) := by decide +kernel
theorem dX4_toldOfDay_65 : decode cX4_toldOfDay 65 = .ok (.aload_n 0, 1) := by decide +kernel
theorem dX4_toldOfDay_66 : decode cX4_toldOfDay 66 = .ok (.getfield 21, 3) := by decide +kernel
theorem dX4_toldOfDay_69 : decode cX4_toldOfDay 69 = .ok (.iload_n 1, 1) := by decide +kernel
theorem dX4_toldOfDay_70 : decode cX4_toldOfDay 70 = .ok (.aload_n 0, 1) := by decide +kernel
theorem dX4_toldOfDay_71 : decode cX4_toldOfDay 71 = .ok (.getfield 28, 3) := by decide +kernel
theorem dX4_toldOfDay_74 : decode cX4_toldOfDay 74 = .ok (.getfield 166, 3) := by decide +kernel
theorem dX4_toldOfDay_77 : decode cX4_toldOfDay 77 = .ok (.aload_n 0, 1) := by decide +kernel
theorem dX4_toldOfDay_78 : decode cX4_toldOfDay 78 = .ok (.getfield 28, 3) := by decide +kernel
theorem dX4_toldOfDay_81 : decode cX4_toldOfDay 81 = .ok (.getfield 169, 3) := by decide +kernel
theorem dX4_toldOfDay_84 : decode cX4_toldOfDay 84 = .ok (.invokevirtual 150, 3) := by decide +kernel
theorem dX4_toldOfDay_87 : decode cX4_toldOfDay 87 = .ok (.ireturn, 1) := by decide +kernel
theorem dX4_toldOfDay_88 : decode cX4_toldOfDay 88 = .ok (.aload_n 0, 1) := by decide +kernel
theorem dX4_toldOfDay_89 : decode cX4_toldOfDay 89 = .ok (.getfield 21, 3) := by decide +kernel
theorem dX4_toldOfDay_92 : decode cX4_toldOfDay 92 = .ok (.iload_n 1, 1) := by decide +kernel
theorem dX4_toldOfDay_93 : decode cX4_toldOfDay 93 = .ok (.invokevirtual 292, 3) := by decide +kernel
theorem dX4_toldOfDay_96 : decode cX4_toldOfDay 96 = .ok (.ireturn, 1) := by decide +kernel
theorem dX4_toldOfDay_97 : decode cX4_toldOfDay 97 = .ok (.aload_n 0, 1) := by decide +kernel
theorem dX4_toldOfDay_98 : decode cX4_toldOfDay 98 = .ok (.getfield 21, 3) := by decide +kernel
theorem dX4_toldOfDay_101 : decode cX4_toldOfDay 101 = .ok (.iload_n 1, 1) := by decide +kernel
theorem dX4_toldOfDay_102 : decode cX4_toldOfDay 102 = .ok (.invokevirtual 172, 3) := by decide +kernel
theorem dX4_toldOfDay_105 : decode cX4_toldOfDay 105 = .ok (.ifCond .eq 7, 3) := by decide +kernel
theorem dX4_toldOfDay_108 : decode cX4_toldOfDay 108 = .ok (.iconst 1, 1) := by decide +kernel
theorem dX4_toldOfDay_109 : decode cX4_toldOfDay 109 = .ok (.goto 4, 3) := by decide +kernel
theorem dX4_toldOfDay_112 : decode cX4_toldOfDay 112 = .ok (.iconst 0, 1) := by decide +kernel
theorem dX4_toldOfDay_113 : decode cX4_toldOfDay 113 = .ok (.ireturn, 1) := by decide +kernel
theorem dX4_doDeed_0 : decode cX4_doDeed 0 = .ok (.aload_n 0, 1) := by decide +kernel
theorem dX4_doDeed_1 : decode cX4_doDeed 1 = .ok (.getfield 35, 3) := by decide +kernel
theorem dX4_doDeed_4 : decode cX4_doDeed 4 = .ok (.iload_n 1, 1) := by decide +kernel
theorem dX4_doDeed_5 : decode cX4_doDeed 5 = .ok (.iload_n 2, 1) := by decide +kernel
theorem dX4_doDeed_6 : decode cX4_doDeed 6 = .ok (.invokevirtual 298, 3) := by decide +kernel
theorem dX4_doDeed_9 : decode cX4_doDeed 9 = .ok (.aload_n 0, 1) := by decide +kernel
theorem dX4_doDeed_10 : decode cX4_doDeed 10 = .ok (.iload_n 1, 1) := by decide +kernel
theorem dX4_doDeed_11 : decode cX4_doDeed 11 = .ok (.iload_n 2, 1) := by decide +kernel
theorem dX4_doDeed_12 : decode cX4_doDeed 12 = .ok (.invokevirtual 301, 3) := by decide +kernel
theorem dX4_doDeed_15 : decode cX4_doDeed 15 = .ok (.ireturn, 1) := by decide +kernel
theorem dX4_apply_0 : decode cX4_apply 0 = .ok (.iload_n 1, 1) := by decide +kernel
theorem dX4_apply_1 : decode cX4_apply 1 = .ok (.tableswitch 82 1 3 #[27, 45, 63], 27) := by decide +kernel
theorem dX4_apply_28 : decode cX4_apply 28 = .ok (.aload_n 0, 1) := by decide +kernel
theorem dX4_apply_29 : decode cX4_apply 29 = .ok (.getfield 28, 3) := by decide +kernel
theorem dX4_apply_32 : decode cX4_apply 32 = .ok (.getfield 169, 3) := by decide +kernel
theorem dX4_apply_35 : decode cX4_apply 35 = .ok (.istore_n 3, 1) := by decide +kernel
theorem dX4_apply_36 : decode cX4_apply 36 = .ok (.aload_n 0, 1) := by decide +kernel
theorem dX4_apply_37 : decode cX4_apply 37 = .ok (.getfield 28, 3) := by decide +kernel
theorem dX4_apply_40 : decode cX4_apply 40 = .ok (.iconst 0, 1) := by decide +kernel
theorem dX4_apply_41 : decode cX4_apply 41 = .ok (.putfield 169, 3) := by decide +kernel
theorem dX4_apply_44 : decode cX4_apply 44 = .ok (.iload_n 3, 1) := by decide +kernel
theorem dX4_apply_45 : decode cX4_apply 45 = .ok (.ireturn, 1) := by decide +kernel
theorem dX4_apply_46 : decode cX4_apply 46 = .ok (.aload_n 0, 1) := by decide +kernel
theorem dX4_apply_47 : decode cX4_apply 47 = .ok (.getfield 28, 3) := by decide +kernel
theorem dX4_apply_50 : decode cX4_apply 50 = .ok (.getfield 166, 3) := by decide +kernel
theorem dX4_apply_53 : decode cX4_apply 53 = .ok (.istore_n 3, 1) := by decide +kernel
theorem dX4_apply_54 : decode cX4_apply 54 = .ok (.aload_n 0, 1) := by decide +kernel
theorem dX4_apply_55 : decode cX4_apply 55 = .ok (.getfield 28, 3) := by decide +kernel
theorem dX4_apply_58 : decode cX4_apply 58 = .ok (.iload_n 2, 1) := by decide +kernel
theorem dX4_apply_59 : decode cX4_apply 59 = .ok (.putfield 166, 3) := by decide +kernel
theorem dX4_apply_62 : decode cX4_apply 62 = .ok (.iload_n 3, 1) := by decide +kernel
theorem dX4_apply_63 : decode cX4_apply 63 = .ok (.ireturn, 1) := by decide +kernel
theorem dX4_apply_64 : decode cX4_apply 64 = .ok (.aload_n 0, 1) := by decide +kernel
theorem dX4_apply_65 : decode cX4_apply 65 = .ok (.getfield 21, 3) := by decide +kernel
theorem dX4_apply_68 : decode cX4_apply 68 = .ok (.iload_n 2, 1) := by decide +kernel
theorem dX4_apply_69 : decode cX4_apply 69 = .ok (.invokevirtual 295, 3) := by decide +kernel
theorem dX4_apply_72 : decode cX4_apply 72 = .ok (.istore_n 3, 1) := by decide +kernel
theorem dX4_apply_73 : decode cX4_apply 73 = .ok (.aload_n 0, 1) := by decide +kernel
theorem dX4_apply_74 : decode cX4_apply 74 = .ok (.getfield 21, 3) := by decide +kernel
theorem dX4_apply_77 : decode cX4_apply 77 = .ok (.iload_n 2, 1) := by decide +kernel
theorem dX4_apply_78 : decode cX4_apply 78 = .ok (.invokevirtual 210, 3) := by decide +kernel
theorem dX4_apply_81 : decode cX4_apply 81 = .ok (.iload_n 3, 1) := by decide +kernel
theorem dX4_apply_82 : decode cX4_apply 82 = .ok (.ireturn, 1) := by decide +kernel
theorem dX4_apply_83 : decode cX4_apply 83 = .ok (.aload_n 0, 1) := by decide +kernel
theorem dX4_apply_84 : decode cX4_apply 84 = .ok (.getfield 28, 3) := by decide +kernel
theorem dX4_apply_87 : decode cX4_apply 87 = .ok (.aload_n 0, 1) := by decide +kernel
theorem dX4_apply_88 : decode cX4_apply 88 = .ok (.getfield 21, 3) := by decide +kernel
theorem dX4_apply_91 : decode cX4_apply 91 = .ok (.invokevirtual 189, 3) := by decide +kernel
theorem dX4_apply_94 : decode cX4_apply 94 = .ok (.ireturn, 1) := by decide +kernel
theorem dX4_doAgain_0 : decode cX4_doAgain 0 = .ok (.aload_n 0, 1) := by decide +kernel
theorem dX4_doAgain_1 : decode cX4_doAgain 1 = .ok (.getfield 28, 3) := by decide +kernel
theorem dX4_doAgain_4 : decode cX4_doAgain 4 = .ok (.invokevirtual 304, 3) := by decide +kernel
theorem dX4_doAgain_7 : decode cX4_doAgain 7 = .ok (.aload_n 0, 1) := by decide +kernel
theorem dX4_doAgain_8 : decode cX4_doAgain 8 = .ok (.getfield 21, 3) := by decide +kernel
theorem dX4_doAgain_11 : decode cX4_doAgain 11 = .ok (.iconst 0, 1) := by decide +kernel
theorem dX4_doAgain_12 : decode cX4_doAgain 12 = .ok (.putfield 256, 3) := by decide +kernel
theorem dX4_doAgain_15 : decode cX4_doAgain 15 = .ok (.iconst 0, 1) := by decide +kernel
theorem dX4_doAgain_16 : decode cX4_doAgain 16 = .ok (.istore_n 1, 1) := by decide +kernel
theorem dX4_doAgain_17 : decode cX4_doAgain 17 = .ok (.iload_n 1, 1) := by decide +kernel
theorem dX4_doAgain_18 : decode cX4_doAgain 18 = .ok (.aload_n 0, 1) := by decide +kernel
theorem dX4_doAgain_19 : decode cX4_doAgain 19 = .ok (.getfield 35, 3) := by decide +kernel
theorem dX4_doAgain_22 : decode cX4_doAgain 22 = .ok (.getfield 72, 3) := by decide +kernel
theorem dX4_doAgain_25 : decode cX4_doAgain 25 = .ok (.if_icmp .ge 32, 3) := by decide +kernel
theorem dX4_doAgain_28 : decode cX4_doAgain 28 = .ok (.aload_n 0, 1) := by decide +kernel
theorem dX4_doAgain_29 : decode cX4_doAgain 29 = .ok (.aload_n 0, 1) := by decide +kernel
theorem dX4_doAgain_30 : decode cX4_doAgain 30 = .ok (.getfield 35, 3) := by decide +kernel
theorem dX4_doAgain_33 : decode cX4_doAgain 33 = .ok (.getfield 307, 3) := by decide +kernel
theorem dX4_doAgain_36 : decode cX4_doAgain 36 = .ok (.iload_n 1, 1) := by decide +kernel
theorem dX4_doAgain_37 : decode cX4_doAgain 37 = .ok (.iaload, 1) := by decide +kernel
theorem dX4_doAgain_38 : decode cX4_doAgain 38 = .ok (.aload_n 0, 1) := by decide +kernel
theorem dX4_doAgain_39 : decode cX4_doAgain 39 = .ok (.getfield 35, 3) := by decide +kernel
theorem dX4_doAgain_42 : decode cX4_doAgain 42 = .ok (.getfield 310, 3) := by decide +kernel
theorem dX4_doAgain_45 : decode cX4_doAgain 45 = .ok (.iload_n 1, 1) := by decide +kernel
theorem dX4_doAgain_46 : decode cX4_doAgain 46 = .ok (.iaload, 1) := by decide +kernel
theorem dX4_doAgain_47 : decode cX4_doAgain 47 = .ok (.invokevirtual 301, 3) := by decide +kernel
theorem dX4_doAgain_50 : decode cX4_doAgain 50 = .ok (.pop, 1) := by decide +kernel
theorem dX4_doAgain_51 : decode cX4_doAgain 51 = .ok (.iinc 1 1, 3) := by decide +kernel
theorem dX4_doAgain_54 : decode cX4_doAgain 54 = .ok (.goto (-37), 3) := by decide +kernel
theorem dX4_doAgain_57 : decode cX4_doAgain 57 = .ok (.return_, 1) := by decide +kernel
theorem dX4_doByLot_0 : decode cX4_doByLot 0 = .ok (.iload_n 1, 1) := by decide +kernel
theorem dX4_doByLot_1 : decode cX4_doByLot 1 = .ok (.bipush 6, 2) := by decide +kernel
theorem dX4_doByLot_3 : decode cX4_doByLot 3 = .ok (.irem, 1) := by decide +kernel
theorem dX4_doByLot_4 : decode cX4_doByLot 4 = .ok (.ifCond .ne 13, 3) := by decide +kernel
theorem dX4_doByLot_7 : decode cX4_doByLot 7 = .ok (.aload_n 0, 1) := by decide +kernel
theorem dX4_doByLot_8 : decode cX4_doByLot 8 = .ok (.iconst 1, 1) := by decide +kernel
theorem dX4_doByLot_9 : decode cX4_doByLot 9 = .ok (.iconst 0, 1) := by decide +kernel
theorem dX4_doByLot_10 : decode cX4_doByLot 10 = .ok (.invokevirtual 160, 3) := by decide +kernel
theorem dX4_doByLot_13 : decode cX4_doByLot 13 = .ok (.pop, 1) := by decide +kernel
theorem dX4_doByLot_14 : decode cX4_doByLot 14 = .ok (.goto 33, 3) := by decide +kernel
theorem dX4_doByLot_17 : decode cX4_doByLot 17 = .ok (.iload_n 1, 1) := by decide +kernel
theorem dX4_doByLot_18 : decode cX4_doByLot 18 = .ok (.bipush 6, 2) := by decide +kernel
theorem dX4_doByLot_20 : decode cX4_doByLot 20 = .ok (.irem, 1) := by decide +kernel
theorem dX4_doByLot_21 : decode cX4_doByLot 21 = .ok (.iconst 1, 1) := by decide +kernel
theorem dX4_doByLot_22 : decode cX4_doByLot 22 = .ok (.if_icmp .ne 18, 3) := by decide +kernel
theorem dX4_doByLot_25 : decode cX4_doByLot 25 = .ok (.aload_n 0, 1) := by decide +kernel
theorem dX4_doByLot_26 : decode cX4_doByLot 26 = .ok (.iconst 2, 1) := by decide +kernel
theorem dX4_doByLot_27 : decode cX4_doByLot 27 = .ok (.iload_n 1, 1) := by decide +kernel
theorem dX4_doByLot_28 : decode cX4_doByLot 28 = .ok (.bipush 8, 2) := by decide +kernel
theorem dX4_doByLot_30 : decode cX4_doByLot 30 = .ok (.idiv, 1) := by decide +kernel
theorem dX4_doByLot_31 : decode cX4_doByLot 31 = .ok (.iconst 5, 1) := by decide +kernel
theorem dX4_doByLot_32 : decode cX4_doByLot 32 = .ok (.irem, 1) := by decide +kernel
theorem dX4_doByLot_33 : decode cX4_doByLot 33 = .ok (.invokevirtual 160, 3) := by decide +kernel
theorem dX4_doByLot_36 : decode cX4_doByLot 36 = .ok (.pop, 1) := by decide +kernel
theorem dX4_doByLot_37 : decode cX4_doByLot 37 = .ok (.goto 10, 3) := by decide +kernel
theorem dX4_doByLot_40 : decode cX4_doByLot 40 = .ok (.aload_n 0, 1) := by decide +kernel
theorem dX4_doByLot_41 : decode cX4_doByLot 41 = .ok (.iconst 0, 1) := by decide +kernel
theorem dX4_doByLot_42 : decode cX4_doByLot 42 = .ok (.iconst 0, 1) := by decide +kernel
theorem dX4_doByLot_43 : decode cX4_doByLot 43 = .ok (.invokevirtual 160, 3) := by decide +kernel
theorem dX4_doByLot_46 : decode cX4_doByLot 46 = .ok (.pop, 1) := by decide +kernel
theorem dX4_doByLot_47 : decode cX4_doByLot 47 = .ok (.return_, 1) := by decide +kernel
theorem dX4_startTrial_0 : decode cX4_startTrial 0 = .ok (.aload_n 0, 1) := by decide +kernel
theorem dX4_startTrial_1 : decode cX4_startTrial 1 = .ok (.getfield 46, 3) := by decide +kernel
theorem dX4_startTrial_4 : decode cX4_startTrial 4 = .ok (.aload_n 0, 1) := by decide +kernel
theorem dX4_startTrial_5 : decode cX4_startTrial 5 = .ok (.getfield 28, 3) := by decide +kernel
theorem dX4_startTrial_8 : decode cX4_startTrial 8 = .ok (.invokevirtual 313, 3) := by decide +kernel
theorem dX4_startTrial_11 : decode cX4_startTrial 11 = .ok (.aload_n 0, 1) := by decide +kernel
theorem dX4_startTrial_12 : decode cX4_startTrial 12 = .ok (.getfield 46, 3) := by decide +kernel
theorem dX4_startTrial_15 : decode cX4_startTrial 15 = .ok (.iconst 0, 1) := by decide +kernel
theorem dX4_startTrial_16 : decode cX4_startTrial 16 = .ok (.putfield 196, 3) := by decide +kernel
theorem dX4_startTrial_19 : decode cX4_startTrial 19 = .ok (.return_, 1) := by decide +kernel
theorem dX4_groundIn_0 : decode cX4_groundIn 0 = .ok (.iconst 0, 1) := by decide +kernel
theorem dX4_groundIn_1 : decode cX4_groundIn 1 = .ok (.istore_n 3, 1) := by decide +kernel
theorem dX4_groundIn_2 : decode cX4_groundIn 2 = .ok (.iload_n 3, 1) := by decide +kernel
theorem dX4_groundIn_3 : decode cX4_groundIn 3 = .ok (.iload_n 1, 1) := by decide +kernel
theorem dX4_groundIn_4 : decode cX4_groundIn 4 = .ok (.if_icmp .ge 18, 3) := by decide +kernel
theorem dX4_groundIn_7 : decode cX4_groundIn 7 = .ok (.aload_n 0, 1) := by decide +kernel
theorem dX4_groundIn_8 : decode cX4_groundIn 8 = .ok (.getfield 46, 3) := by decide +kernel
theorem dX4_groundIn_11 : decode cX4_groundIn 11 = .ok (.aload_n 2, 1) := by decide +kernel
theorem dX4_groundIn_12 : decode cX4_groundIn 12 = .ok (.invokevirtual 189, 3) := by decide +kernel
theorem dX4_groundIn_15 : decode cX4_groundIn 15 = .ok (.pop, 1) := by decide +kernel
theorem dX4_groundIn_16 : decode cX4_groundIn 16 = .ok (.iinc 3 1, 3) := by decide +kernel
theorem dX4_groundIn_19 : decode cX4_groundIn 19 = .ok (.goto (-17), 3) := by decide +kernel
theorem dX4_groundIn_22 : decode cX4_groundIn 22 = .ok (.aload_n 0, 1) := by decide +kernel
theorem dX4_groundIn_23 : decode cX4_groundIn 23 = .ok (.getfield 46, 3) := by decide +kernel
theorem dX4_groundIn_26 : decode cX4_groundIn 26 = .ok (.getfield 196, 3) := by decide +kernel
theorem dX4_groundIn_29 : decode cX4_groundIn 29 = .ok (.ireturn, 1) := by decide +kernel
theorem dX4_groundRaking_0 : decode cX4_groundRaking 0 = .ok (.aload_n 0, 1) := by decide +kernel
theorem dX4_groundRaking_1 : decode cX4_groundRaking 1 = .ok (.invokevirtual 182, 3) := by decide +kernel
theorem dX4_groundRaking_4 : decode cX4_groundRaking 4 = .ok (.iconst 0, 1) := by decide +kernel
theorem dX4_groundRaking_5 : decode cX4_groundRaking 5 = .ok (.istore_n 3, 1) := by decide +kernel
theorem dX4_groundRaking_6 : decode cX4_groundRaking 6 = .ok (.iload_n 3, 1) := by decide +kernel
theorem dX4_groundRaking_7 : decode cX4_groundRaking 7 = .ok (.iload_n 1, 1) := by decide +kernel
theorem dX4_groundRaking_8 : decode cX4_groundRaking 8 = .ok (.if_icmp .ge 38, 3) := by decide +kernel
theorem dX4_groundRaking_11 : decode cX4_groundRaking 11 = .ok (.iload_n 2, 1) := by decide +kernel
theorem dX4_groundRaking_12 : decode cX4_groundRaking 12 = .ok (.iload_n 3, 1) := by decide +kernel
theorem dX4_groundRaking_13 : decode cX4_groundRaking 13 = .ok (.ishr, 1) := by decide +kernel
theorem dX4_groundRaking_14 : decode cX4_groundRaking 14 = .ok (.iconst 1, 1) := by decide +kernel
theorem dX4_groundRaking_15 : decode cX4_groundRaking 15 = .ok (.iand, 1) := by decide +kernel
theorem dX4_groundRaking_16 : decode cX4_groundRaking 16 = .ok (.iconst 1, 1) := by decide +kernel
theorem dX4_groundRaking_17 : decode cX4_groundRaking 17 = .ok (.if_icmp .ne 11, 3) := by decide +kernel
theorem dX4_groundRaking_20 : decode cX4_groundRaking 20 = .ok (.aload_n 0, 1) := by decide +kernel
theorem dX4_groundRaking_21 : decode cX4_groundRaking 21 = .ok (.getfield 46, 3) := by decide +kernel
theorem dX4_groundRaking_24 : decode cX4_groundRaking 24 = .ok (.iconst 0, 1) := by decide +kernel
theorem dX4_groundRaking_25 : decode cX4_groundRaking 25 = .ok (.putfield 169, 3) := by decide +kernel
theorem dX4_groundRaking_28 : decode cX4_groundRaking 28 = .ok (.aload_n 0, 1) := by decide +kernel
theorem dX4_groundRaking_29 : decode cX4_groundRaking 29 = .ok (.getfield 46, 3) := by decide +kernel
theorem dX4_groundRaking_32 : decode cX4_groundRaking 32 = .ok (.aload_n 0, 1) := by decide +kernel
theorem dX4_groundRaking_33 : decode cX4_groundRaking 33 = .ok (.getfield 21, 3) := by decide +kernel
theorem dX4_groundRaking_36 : decode cX4_groundRaking 36 = .ok (.invokevirtual 189, 3) := by decide +kernel
theorem dX4_groundRaking_39 : decode cX4_groundRaking 39 = .ok (.pop, 1) := by decide +kernel
theorem dX4_groundRaking_40 : decode cX4_groundRaking 40 = .ok (.iinc 3 1, 3) := by decide +kernel
theorem dX4_groundRaking_43 : decode cX4_groundRaking 43 = .ok (.goto (-37), 3) := by decide +kernel
theorem dX4_groundRaking_46 : decode cX4_groundRaking 46 = .ok (.aload_n 0, 1) := by decide +kernel
theorem dX4_groundRaking_47 : decode cX4_groundRaking 47 = .ok (.getfield 46, 3) := by decide +kernel
theorem dX4_groundRaking_50 : decode cX4_groundRaking 50 = .ok (.getfield 196, 3) := by decide +kernel
theorem dX4_groundRaking_53 : decode cX4_groundRaking 53 = .ok (.ireturn, 1) := by decide +kernel
theorem dX4_groundWithDry_0 : decode cX4_groundWithDry 0 = .ok (.aload_n 0, 1) := by decide +kernel
theorem dX4_groundWithDry_1 : decode cX4_groundWithDry 1 = .ok (.invokevirtual 182, 3) := by decide +kernel
theorem dX4_groundWithDry_4 : decode cX4_groundWithDry 4 = .ok (.iconst 0, 1) := by decide +kernel
theorem dX4_groundWithDry_5 : decode cX4_groundWithDry 5 = .ok (.istore_n 2, 1) := by decide +kernel
theorem dX4_groundWithDry_6 : decode cX4_groundWithDry 6 = .ok (.iload_n 2, 1) := by decide +kernel
theorem dX4_groundWithDry_7 : decode cX4_groundWithDry 7 = .ok (.bipush 6, 2) := by decide +kernel
theorem dX4_groundWithDry_9 : decode cX4_groundWithDry 9 = .ok (.if_icmp .ge 54, 3) := by decide +kernel
theorem dX4_groundWithDry_12 : decode cX4_groundWithDry 12 = .ok (.iload_n 1, 1) := by decide +kernel
theorem dX4_groundWithDry_13 : decode cX4_groundWithDry 13 = .ok (.iload_n 2, 1) := by decide +kernel
theorem dX4_groundWithDry_14 : decode cX4_groundWithDry 14 = .ok (.ishr, 1) := by decide +kernel
theorem dX4_groundWithDry_15 : decode cX4_groundWithDry 15 = .ok (.iconst 1, 1) := by decide +kernel
theorem dX4_groundWithDry_16 : decode cX4_groundWithDry 16 = .ok (.iand, 1) := by decide +kernel
theorem dX4_groundWithDry_17 : decode cX4_groundWithDry 17 = .ok (.iconst 1, 1) := by decide +kernel
theorem dX4_groundWithDry_18 : decode cX4_groundWithDry 18 = .ok (.if_icmp .ne 27, 3) := by decide +kernel
theorem dX4_groundWithDry_21 : decode cX4_groundWithDry 21 = .ok (.aload_n 0, 1) := by decide +kernel
theorem dX4_groundWithDry_22 : decode cX4_groundWithDry 22 = .ok (.getfield 46, 3) := by decide +kernel
theorem dX4_groundWithDry_25 : decode cX4_groundWithDry 25 = .ok (.invokevirtual 316, 3) := by decide +kernel
theorem dX4_groundWithDry_28 : decode cX4_groundWithDry 28 = .ok (.aload_n 0, 1) := by decide +kernel
theorem dX4_groundWithDry_29 : decode cX4_groundWithDry 29 = .ok (.getfield 46, 3) := by decide +kernel
theorem dX4_groundWithDry_32 : decode cX4_groundWithDry 32 = .ok (.aload_n 0, 1) := by decide +kernel
theorem dX4_groundWithDry_33 : decode cX4_groundWithDry 33 = .ok (.getfield 21, 3) := by decide +kernel
theorem dX4_groundWithDry_36 : decode cX4_groundWithDry 36 = .ok (.getfield 129, 3) := by decide +kernel
theorem dX4_groundWithDry_39 : decode cX4_groundWithDry 39 = .ok (.invokevirtual 319, 3) := by decide +kernel
theorem dX4_groundWithDry_42 : decode cX4_groundWithDry 42 = .ok (.goto 15, 3) := by decide +kernel
theorem dX4_groundWithDry_45 : decode cX4_groundWithDry 45 = .ok (.aload_n 0, 1) := by decide +kernel
theorem dX4_groundWithDry_46 : decode cX4_groundWithDry 46 = .ok (.getfield 46, 3) := by decide +kernel
theorem dX4_groundWithDry_49 : decode cX4_groundWithDry 49 = .ok (.aload_n 0, 1) := by decide +kernel
theorem dX4_groundWithDry_50 : decode cX4_groundWithDry 50 = .ok (.getfield 21, 3) := by decide +kernel
theorem dX4_groundWithDry_53 : decode cX4_groundWithDry 53 = .ok (.invokevirtual 189, 3) := by decide +kernel
theorem dX4_groundWithDry_56 : decode cX4_groundWithDry 56 = .ok (.pop, 1) := by decide +kernel
theorem dX4_groundWithDry_57 : decode cX4_groundWithDry 57 = .ok (.iinc 2 1, 3) := by decide +kernel
theorem dX4_groundWithDry_60 : decode cX4_groundWithDry 60 = .ok (.goto (-54), 3) := by decide +kernel
theorem dX4_groundWithDry_63 : decode cX4_groundWithDry 63 = .ok (.aload_n 0, 1) := by decide +kernel
theorem dX4_groundWithDry_64 : decode cX4_groundWithDry 64 = .ok (.getfield 46, 3) := by decide +kernel
theorem dX4_groundWithDry_67 : decode cX4_groundWithDry 67 = .ok (.getfield 196, 3) := by decide +kernel
theorem dX4_groundWithDry_70 : decode cX4_groundWithDry 70 = .ok (.ireturn, 1) := by decide +kernel
theorem dX4_grindsSo_0 : decode cX4_grindsSo 0 = .ok (.aload_n 0, 1) := by decide +kernel
theorem dX4_grindsSo_1 : decode cX4_grindsSo 1 = .ok (.invokevirtual 182, 3) := by decide +kernel
theorem dX4_grindsSo_4 : decode cX4_grindsSo 4 = .ok (.aload_n 0, 1) := by decide +kernel
theorem dX4_grindsSo_5 : decode cX4_grindsSo 5 = .ok (.getfield 46, 3) := by decide +kernel
theorem dX4_grindsSo_8 : decode cX4_grindsSo 8 = .ok (.iload_n 3, 1) := by decide +kernel
theorem dX4_grindsSo_9 : decode cX4_grindsSo 9 = .ok (.putfield 163, 3) := by decide +kernel
theorem dX4_grindsSo_12 : decode cX4_grindsSo 12 = .ok (.iconst 0, 1) := by decide +kernel
theorem dX4_grindsSo_13 : decode cX4_grindsSo 13 = .ok (.istore 4, 2) := by decide +kernel
theorem dX4_grindsSo_15 : decode cX4_grindsSo 15 = .ok (.iload 4, 2) := by decide +kernel
theorem dX4_grindsSo_17 : decode cX4_grindsSo 17 = .ok (.aload_n 1, 1) := by decide +kernel
theorem dX4_grindsSo_18 : decode cX4_grindsSo 18 = .ok (.getfield 98, 3) := by decide +kernel
theorem dX4_grindsSo_21 : decode cX4_grindsSo 21 = .ok (.if_icmp .ge 29, 3) := by decide +kernel
theorem dX4_grindsSo_24 : decode cX4_grindsSo 24 = .ok (.aload_n 0, 1) := by decide +kernel
theorem dX4_grindsSo_25 : decode cX4_grindsSo 25 = .ok (.getfield 46, 3) := by decide +kernel
theorem dX4_grindsSo_28 : decode cX4_grindsSo 28 = .ok (.aload_n 2, 1) := by decide +kernel
theorem dX4_grindsSo_29 : decode cX4_grindsSo 29 = .ok (.invokevirtual 189, 3) := by decide +kernel
theorem dX4_grindsSo_32 : decode cX4_grindsSo 32 = .ok (.aload_n 1, 1) := by decide +kernel
theorem dX4_grindsSo_33 : decode cX4_grindsSo 33 = .ok (.getfield 91, 3) := by decide +kernel
theorem dX4_grindsSo_36 : decode cX4_grindsSo 36 = .ok (.iload 4, 2) := by decide +kernel
theorem dX4_grindsSo_38 : decode cX4_grindsSo 38 = .ok (.iaload, 1) := by decide +kernel
theorem dX4_grindsSo_39 : decode cX4_grindsSo 39 = .ok (.if_icmp .eq 5, 3) := by decide +kernel
theorem dX4_grindsSo_42 : decode cX4_grindsSo 42 = .ok (.iconst 0, 1) := by decide +kernel
theorem dX4_grindsSo_43 : decode cX4_grindsSo 43 = .ok (.ireturn, 1) := by decide +kernel
theorem dX4_grindsSo_44 : decode cX4_grindsSo 44 = .ok (.iinc 4 1, 3) := by decide +kernel
theorem dX4_grindsSo_47 : decode cX4_grindsSo 47 = .ok (.goto (-32), 3) := by decide +kernel
theorem dX4_grindsSo_50 : decode cX4_grindsSo 50 = .ok (.iconst 1, 1) := by decide +kernel
theorem dX4_grindsSo_51 : decode cX4_grindsSo 51 = .ok (.ireturn, 1) := by decide +kernel
theorem dX4_bestSetting_0 : decode cX4_bestSetting 0 = .ok (.iconst 0, 1) := by decide +kernel
theorem dX4_bestSetting_1 : decode cX4_bestSetting 1 = .ok (.istore_n 2, 1) := by decide +kernel
theorem dX4_bestSetting_2 : decode cX4_bestSetting 2 = .ok (.iconst (-1), 1) := by decide +kernel
theorem dX4_bestSetting_3 : decode cX4_bestSetting 3 = .ok (.istore_n 3, 1) := by decide +kernel
theorem dX4_bestSetting_4 : decode cX4_bestSetting 4 = .ok (.iconst 0, 1) := by decide +kernel
theorem dX4_bestSetting_5 : decode cX4_bestSetting 5 = .ok (.istore 4, 2) := by decide +kernel
theorem dX4_bestSetting_7 : decode cX4_bestSetting 7 = .ok (.iload 4, 2) := by decide +kernel
theorem dX4_bestSetting_9 : decode cX4_bestSetting 9 = .ok (.iconst 4, 1) := by decide +kernel
theorem dX4_bestSetting_10 : decode cX4_bestSetting 10 = .ok (.if_icmp .gt 34, 3) := by decide +kernel
theorem dX4_bestSetting_13 : decode cX4_bestSetting 13 = .ok (.aload_n 0, 1) := by decide +kernel
theorem dX4_bestSetting_14 : decode cX4_bestSetting 14 = .ok (.aload_n 0, 1) := by decide +kernel
theorem dX4_bestSetting_15 : decode cX4_bestSetting 15 = .ok (.getfield 46, 3) := by decide +kernel
theorem dX4_bestSetting_18 : decode cX4_bestSetting 18 = .ok (.iload 4, 2) := by decide +kernel
theorem dX4_bestSetting_20 : decode cX4_bestSetting 20 = .ok (.iload_n 1, 1) := by decide +kernel
theorem dX4_bestSetting_21 : decode cX4_bestSetting 21 = .ok (.invokevirtual 322, 3) := by decide +kernel
theorem dX4_bestSetting_24 : decode cX4_bestSetting 24 = .ok (.istore 5, 2) := by decide +kernel
theorem dX4_bestSetting_26 : decode cX4_bestSetting 26 = .ok (.iload 5, 2) := by decide +kernel
theorem dX4_bestSetting_28 : decode cX4_bestSetting 28 = .ok (.iload_n 3, 1) := by decide +kernel
theorem dX4_bestSetting_29 : decode cX4_bestSetting 29 = .ok (.if_icmp .le 9, 3) := by decide +kernel
theorem dX4_bestSetting_32 : decode cX4_bestSetting 32 = .ok (.iload 5, 2) := by decide +kernel
theorem dX4_bestSetting_34 : decode cX4_bestSetting 34 = .ok (.istore_n 3, 1) := by decide +kernel
theorem dX4_bestSetting_35 : decode cX4_bestSetting 35 = .ok (.iload 4, 2) := by decide +kernel
theorem dX4_bestSetting_37 : decode cX4_bestSetting 37 = .ok (.istore_n 2, 1) := by decide +kernel
theorem dX4_bestSetting_38 : decode cX4_bestSetting 38 = .ok (.iinc 4 1, 3) := by decide +kernel
theorem dX4_bestSetting_41 : decode cX4_bestSetting 41 = .ok (.goto (-34), 3) := by decide +kernel
theorem dX4_bestSetting_44 : decode cX4_bestSetting 44 = .ok (.iload_n 2, 1) := by decide +kernel
theorem dX4_bestSetting_45 : decode cX4_bestSetting 45 = .ok (.ireturn, 1) := by decide +kernel
theorem dX4_mostSetting_0 : decode cX4_mostSetting 0 = .ok (.iload_n 3, 1) := by decide +kernel
theorem dX4_mostSetting_1 : decode cX4_mostSetting 1 = .ok (.iconst 0, 1) := by decide +kernel
theorem dX4_mostSetting_2 : decode cX4_mostSetting 2 = .ok (.iconst 4, 1) := by decide +kernel
theorem dX4_mostSetting_3 : decode cX4_mostSetting 3 = .ok (.invokestatic 133, 3) := by decide +kernel
theorem dX4_mostSetting_6 : decode cX4_mostSetting 6 = .ok (.ifCond .ne 8, 3) := by decide +kernel
theorem dX4_mostSetting_9 : decode cX4_mostSetting 9 = .ok (.aload_n 1, 1) := by decide +kernel
theorem dX4_mostSetting_10 : decode cX4_mostSetting 10 = .ok (.getfield 196, 3) := by decide +kernel
theorem dX4_mostSetting_13 : decode cX4_mostSetting 13 = .ok (.ireturn, 1) := by decide +kernel
theorem dX4_mostSetting_14 : decode cX4_mostSetting 14 = .ok (.aload_n 0, 1) := by decide +kernel
theorem dX4_mostSetting_15 : decode cX4_mostSetting 15 = .ok (.getfield 49, 3) := by decide +kernel
theorem dX4_mostSetting_18 : decode cX4_mostSetting 18 = .ok (.iload_n 3, 1) := by decide +kernel
theorem dX4_mostSetting_19 : decode cX4_mostSetting 19 = .ok (.aaload, 1) := by decide +kernel
theorem dX4_mostSetting_20 : decode cX4_mostSetting 20 = .ok (.astore 4, 2) := by decide +kernel
theorem dX4_mostSetting_22 : decode cX4_mostSetting 22 = .ok (.aload 4, 2) := by decide +kernel
theorem dX4_mostSetting_24 : decode cX4_mostSetting 24 = .ok (.aload_n 1, 1) := by decide +kernel
theorem dX4_mostSetting_25 : decode cX4_mostSetting 25 = .ok (.invokevirtual 313, 3) := by decide +kernel
theorem dX4_mostSetting_28 : decode cX4_mostSetting 28 = .ok (.aload 4, 2) := by decide +kernel
theorem dX4_mostSetting_30 : decode cX4_mostSetting 30 = .ok (.iload_n 2, 1) := by decide +kernel
theorem dX4_mostSetting_31 : decode cX4_mostSetting 31 = .ok (.putfield 166, 3) := by decide +kernel
theorem dX4_mostSetting_34 : decode cX4_mostSetting 34 = .ok (.aload 4, 2) := by decide +kernel
theorem dX4_mostSetting_36 : decode cX4_mostSetting 36 = .ok (.aload_n 0, 1) := by decide +kernel
theorem dX4_mostSetting_37 : decode cX4_mostSetting 37 = .ok (.getfield 21, 3) := by decide +kernel
theorem dX4_mostSetting_40 : decode cX4_mostSetting 40 = .ok (.invokevirtual 189, 3) := by decide +kernel
theorem dX4_mostSetting_43 : decode cX4_mostSetting 43 = .ok (.pop, 1) := by decide +kernel
theorem dX4_mostSetting_44 : decode cX4_mostSetting 44 = .ok (.iload_n 3, 1) := by decide +kernel
theorem dX4_mostSetting_45 : decode cX4_mostSetting 45 = .ok (.ifCond .ne 9, 3) := by decide +kernel
theorem dX4_mostSetting_48 : decode cX4_mostSetting 48 = .ok (.aload 4, 2) := by decide +kernel
theorem dX4_mostSetting_50 : decode cX4_mostSetting 50 = .ok (.getfield 196, 3) := by decide +kernel
theorem dX4_mostSetting_53 : decode cX4_mostSetting 53 = .ok (.ireturn, 1) := by decide +kernel
theorem dX4_mostSetting_54 : decode cX4_mostSetting 54 = .ok (.iconst 0, 1) := by decide +kernel
theorem dX4_mostSetting_55 : decode cX4_mostSetting 55 = .ok (.istore 5, 2) := by decide +kernel
theorem dX4_mostSetting_57 : decode cX4_mostSetting 57 = .ok (.iconst 0, 1) := by decide +kernel
theorem dX4_mostSetting_58 : decode cX4_mostSetting 58 = .ok (.istore 6, 2) := by decide +kernel
theorem dX4_mostSetting_60 : decode cX4_mostSetting 60 = .ok (.iload 6, 2) := by decide +kernel
theorem dX4_mostSetting_62 : decode cX4_mostSetting 62 = .ok (.iconst 4, 1) := by decide +kernel
theorem dX4_mostSetting_63 : decode cX4_mostSetting 63 = .ok (.if_icmp .gt 27, 3) := by decide +kernel
theorem dX4_mostSetting_66 : decode cX4_mostSetting 66 = .ok (.iload 5, 2) := by decide +kernel
theorem dX4_mostSetting_68 : decode cX4_mostSetting 68 = .ok (.aload_n 0, 1) := by decide +kernel
theorem dX4_mostSetting_69 : decode cX4_mostSetting 69 = .ok (.aload 4, 2) := by decide +kernel
theorem dX4_mostSetting_71 : decode cX4_mostSetting 71 = .ok (.iload 6, 2) := by decide +kernel
theorem dX4_mostSetting_73 : decode cX4_mostSetting 73 = .ok (.iload_n 3, 1) := by decide +kernel
theorem dX4_mostSetting_74 : decode cX4_mostSetting 74 = .ok (.iconst 1, 1) := by decide +kernel
theorem dX4_mostSetting_75 : decode cX4_mostSetting 75 = .ok (.isub, 1) := by decide +kernel
theorem dX4_mostSetting_76 : decode cX4_mostSetting 76 = .ok (.invokevirtual 322, 3) := by decide +kernel
theorem dX4_mostSetting_79 : decode cX4_mostSetting 79 = .ok (.invokestatic 326, 3) := by decide +kernel
theorem dX4_mostSetting_82 : decode cX4_mostSetting 82 = .ok (.istore 5, 2) := by decide +kernel
theorem dX4_mostSetting_84 : decode cX4_mostSetting 84 = .ok (.iinc 6 1, 3) := by decide +kernel
theorem dX4_mostSetting_87 : decode cX4_mostSetting 87 = .ok (.goto (-27), 3) := by decide +kernel
theorem dX4_mostSetting_90 : decode cX4_mostSetting 90 = .ok (.iload 5, 2) := by decide +kernel
theorem dX4_mostSetting_92 : decode cX4_mostSetting 92 = .ok (.ireturn, 1) := by decide +kernel
theorem dX4_greatestPart_0 : decode cX4_greatestPart 0 = .ok (.aload_n 0, 1) := by decide +kernel
theorem dX4_greatestPart_1 : decode cX4_greatestPart 1 = .ok (.getfield 43, 3) := by decide +kernel
theorem dX4_greatestPart_4 : decode cX4_greatestPart 4 = .ok (.aload_n 0, 1) := by decide +kernel
theorem dX4_greatestPart_5 : decode cX4_greatestPart 5 = .ok (.getfield 21, 3) := by decide +kernel
theorem dX4_greatestPart_8 : decode cX4_greatestPart 8 = .ok (.invokevirtual 207, 3) := by decide +kernel
theorem dX4_greatestPart_11 : decode cX4_greatestPart 11 = .ok (.iconst 0, 1) := by decide +kernel
theorem dX4_greatestPart_12 : decode cX4_greatestPart 12 = .ok (.istore_n 3, 1) := by decide +kernel
theorem dX4_greatestPart_13 : decode cX4_greatestPart 13 = .ok (.iconst 0, 1) := by decide +kernel
theorem dX4_greatestPart_14 : decode cX4_greatestPart 14 = .ok (.istore 4, 2) := by decide +kernel
theorem dX4_greatestPart_16 : decode cX4_greatestPart 16 = .ok (.iload 4, 2) := by decide +kernel
theorem dX4_greatestPart_18 : decode cX4_greatestPart 18 = .ok (.bipush 6, 2) := by decide +kernel
theorem dX4_greatestPart_20 : decode cX4_greatestPart 20 = .ok (.if_icmp .ge 47, 3) := by decide +kernel
theorem dX4_greatestPart_23 : decode cX4_greatestPart 23 = .ok (.aload_n 0, 1) := by decide +kernel
theorem dX4_greatestPart_24 : decode cX4_greatestPart 24 = .ok (.getfield 43, 3) := by decide +kernel
theorem dX4_greatestPart_27 : decode cX4_greatestPart 27 = .ok (.getfield 141, 3) := by decide +kernel
theorem dX4_greatestPart_30 : decode cX4_greatestPart 30 = .ok (.iload_n 1, 1) := by decide +kernel
theorem dX4_greatestPart_31 : decode cX4_greatestPart 31 = .ok (.iload 4, 2) := by decide +kernel
theorem dX4_greatestPart_33 : decode cX4_greatestPart 33 = .ok (.iastore, 1) := by decide +kernel
theorem dX4_greatestPart_34 : decode cX4_greatestPart 34 = .ok (.iload_n 3, 1) := by decide +kernel
theorem dX4_greatestPart_35 : decode cX4_greatestPart 35 = .ok (.aload_n 0, 1) := by decide +kernel
theorem dX4_greatestPart_36 : decode cX4_greatestPart 36 = .ok (.iload_n 1, 1) := by decide +kernel
theorem dX4_greatestPart_37 : decode cX4_greatestPart 37 = .ok (.iload_n 2, 1) := by decide +kernel
theorem dX4_greatestPart_38 : decode cX4_greatestPart 38 = .ok (.aload_n 0, 1) := by decide +kernel
theorem dX4_greatestPart_39 : decode cX4_greatestPart 39 = .ok (.getfield 43, 3) := by decide +kernel
theorem dX4_greatestPart_42 : decode cX4_greatestPart 42 = .ok (.iload_n 1, 1) := by decide +kernel
theorem dX4_greatestPart_43 : decode cX4_greatestPart 43 = .ok (.iload_n 2, 1) := by decide +kernel
theorem dX4_greatestPart_44 : decode cX4_greatestPart 44 = .ok (.aload_n 0, 1) := by decide +kernel
theorem dX4_greatestPart_45 : decode cX4_greatestPart 45 = .ok (.getfield 28, 3) := by decide +kernel
theorem dX4_greatestPart_48 : decode cX4_greatestPart 48 = .ok (.getfield 169, 3) := by decide +kernel
theorem dX4_greatestPart_51 : decode cX4_greatestPart 51 = .ok (.invokevirtual 150, 3) := by decide +kernel
theorem dX4_greatestPart_54 : decode cX4_greatestPart 54 = .ok (.invokevirtual 331, 3) := by decide +kernel
theorem dX4_greatestPart_57 : decode cX4_greatestPart 57 = .ok (.invokestatic 326, 3) := by decide +kernel
theorem dX4_greatestPart_60 : decode cX4_greatestPart 60 = .ok (.istore_n 3, 1) := by decide +kernel
theorem dX4_greatestPart_61 : decode cX4_greatestPart 61 = .ok (.iinc 4 1, 3) := by decide +kernel
theorem dX4_greatestPart_64 : decode cX4_greatestPart 64 = .ok (.goto (-48), 3) := by decide +kernel
theorem dX4_greatestPart_67 : decode cX4_greatestPart 67 = .ok (.iload_n 3, 1) := by decide +kernel
theorem dX4_greatestPart_68 : decode cX4_greatestPart 68 = .ok (.ireturn, 1) := by decide +kernel
theorem dX4_kindsGrinding_0 : decode cX4_kindsGrinding 0 = .ok (.iconst 0, 1) := by decide +kernel
theorem dX4_kindsGrinding_1 : decode cX4_kindsGrinding 1 = .ok (.istore 4, 2) := by decide +kernel
theorem dX4_kindsGrinding_3 : decode cX4_kindsGrinding 3 = .ok (.iconst 0, 1) := by decide +kernel
theorem dX4_kindsGrinding_4 : decode cX4_kindsGrinding 4 = .ok (.istore 5, 2) := by decide +kernel
theorem dX4_kindsGrinding_6 : decode cX4_kindsGrinding 6 = .ok (.iload 5, 2) := by decide +kernel
theorem dX4_kindsGrinding_8 : decode cX4_kindsGrinding 8 = .ok (.bipush 6, 2) := by decide +kernel
theorem dX4_kindsGrinding_10 : decode cX4_kindsGrinding 10 = .ok (.if_icmp .ge 43, 3) := by decide +kernel
theorem dX4_kindsGrinding_13 : decode cX4_kindsGrinding 13 = .ok (.aload_n 0, 1) := by decide +kernel
theorem dX4_kindsGrinding_14 : decode cX4_kindsGrinding 14 = .ok (.getfield 43, 3) := by decide +kernel
theorem dX4_kindsGrinding_17 : decode cX4_kindsGrinding 17 = .ok (.getfield 141, 3) := by decide +kernel
theorem dX4_kindsGrinding_20 : decode cX4_kindsGrinding 20 = .ok (.iload_n 1, 1) := by decide +kernel
theorem dX4_kindsGrinding_21 : decode cX4_kindsGrinding 21 = .ok (.iload 5, 2) := by decide +kernel
theorem dX4_kindsGrinding_23 : decode cX4_kindsGrinding 23 = .ok (.iastore, 1) := by decide +kernel
theorem dX4_kindsGrinding_24 : decode cX4_kindsGrinding 24 = .ok (.aload_n 0, 1) := by decide +kernel
theorem dX4_kindsGrinding_25 : decode cX4_kindsGrinding 25 = .ok (.getfield 43, 3) := by decide +kernel
theorem dX4_kindsGrinding_28 : decode cX4_kindsGrinding 28 = .ok (.iload_n 1, 1) := by decide +kernel
theorem dX4_kindsGrinding_29 : decode cX4_kindsGrinding 29 = .ok (.iload_n 2, 1) := by decide +kernel
theorem dX4_kindsGrinding_30 : decode cX4_kindsGrinding 30 = .ok (.aload_n 0, 1) := by decide +kernel
theorem dX4_kindsGrinding_31 : decode cX4_kindsGrinding 31 = .ok (.getfield 28, 3) := by decide +kernel
theorem dX4_kindsGrinding_34 : decode cX4_kindsGrinding 34 = .ok (.getfield 169, 3) := by decide +kernel
theorem dX4_kindsGrinding_37 : decode cX4_kindsGrinding 37 = .ok (.invokevirtual 150, 3) := by decide +kernel
theorem dX4_kindsGrinding_40 : decode cX4_kindsGrinding 40 = .ok (.iload_n 3, 1) := by decide +kernel
theorem dX4_kindsGrinding_41 : decode cX4_kindsGrinding 41 = .ok (.if_icmp .ne 6, 3) := by decide +kernel
theorem dX4_kindsGrinding_44 : decode cX4_kindsGrinding 44 = .ok (.iinc 4 1, 3) := by decide +kernel
theorem dX4_kindsGrinding_47 : decode cX4_kindsGrinding 47 = .ok (.iinc 5 1, 3) := by decide +kernel
theorem dX4_kindsGrinding_50 : decode cX4_kindsGrinding 50 = .ok (.goto (-44), 3) := by decide +kernel
theorem dX4_kindsGrinding_53 : decode cX4_kindsGrinding 53 = .ok (.iload 4, 2) := by decide +kernel
theorem dX4_kindsGrinding_55 : decode cX4_kindsGrinding 55 = .ok (.ireturn, 1) := by decide +kernel
theorem dX4_millersTurn_0 : decode cX4_millersTurn 0 = .ok (.iload_n 1, 1) := by decide +kernel
theorem dX4_millersTurn_1 : decode cX4_millersTurn 1 = .ok (.ifCond .gt 10, 3) := by decide +kernel
theorem dX4_millersTurn_4 : decode cX4_millersTurn 4 = .ok (.aload_n 0, 1) := by decide +kernel
theorem dX4_millersTurn_5 : decode cX4_millersTurn 5 = .ok (.iload_n 2, 1) := by decide +kernel
theorem dX4_millersTurn_6 : decode cX4_millersTurn 6 = .ok (.iload_n 3, 1) := by decide +kernel
theorem dX4_millersTurn_7 : decode cX4_millersTurn 7 = .ok (.invokevirtual 334, 3) := by decide +kernel
theorem dX4_millersTurn_10 : decode cX4_millersTurn 10 = .ok (.ireturn, 1) := by decide +kernel
theorem dX4_millersTurn_11 : decode cX4_millersTurn 11 = .ok (.aload_n 0, 1) := by decide +kernel
theorem dX4_millersTurn_12 : decode cX4_millersTurn 12 = .ok (.iload_n 1, 1) := by decide +kernel
theorem dX4_millersTurn_13 : decode cX4_millersTurn 13 = .ok (.iconst 1, 1) := by decide +kernel
theorem dX4_millersTurn_14 : decode cX4_millersTurn 14 = .ok (.isub, 1) := by decide +kernel
theorem dX4_millersTurn_15 : decode cX4_millersTurn 15 = .ok (.iload_n 2, 1) := by decide +kernel
theorem dX4_millersTurn_16 : decode cX4_millersTurn 16 = .ok (.iload_n 3, 1) := by decide +kernel
theorem dX4_millersTurn_17 : decode cX4_millersTurn 17 = .ok (.invokevirtual 337, 3) := by decide +kernel
theorem dX4_millersTurn_20 : decode cX4_millersTurn 20 = .ok (.istore 4, 2) := by decide +kernel
theorem dX4_millersTurn_22 : decode cX4_millersTurn 22 = .ok (.aload_n 0, 1) := by decide +kernel
theorem dX4_millersTurn_23 : decode cX4_millersTurn 23 = .ok (.iload_n 1, 1) := by decide +kernel
theorem dX4_millersTurn_24 : decode cX4_millersTurn 24 = .ok (.iconst 1, 1) := by decide +kernel
theorem dX4_millersTurn_25 : decode cX4_millersTurn 25 = .ok (.isub, 1) := by decide +kernel
theorem dX4_millersTurn_26 : decode cX4_millersTurn 26 = .ok (.iload_n 2, 1) := by decide +kernel
theorem dX4_millersTurn_27 : decode cX4_millersTurn 27 = .ok (.iconst 0, 1) := by decide +kernel
theorem dX4_millersTurn_28 : decode cX4_millersTurn 28 = .ok (.invokevirtual 337, 3) := by decide +kernel
theorem dX4_millersTurn_31 : decode cX4_millersTurn 31 = .ok (.istore 5, 2) := by decide +kernel
theorem dX4_millersTurn_33 : decode cX4_millersTurn 33 = .ok (.aload_n 0, 1) := by decide +kernel
theorem dX4_millersTurn_34 : decode cX4_millersTurn 34 = .ok (.iload_n 1, 1) := by decide +kernel
theorem dX4_millersTurn_35 : decode cX4_millersTurn 35 = .ok (.iconst 1, 1) := by decide +kernel
theorem dX4_millersTurn_36 : decode cX4_millersTurn 36 = .ok (.isub, 1) := by decide +kernel
theorem dX4_millersTurn_37 : decode cX4_millersTurn 37 = .ok (.iconst 4, 1) := by decide +kernel
theorem dX4_millersTurn_38 : decode cX4_millersTurn 38 = .ok (.iload_n 2, 1) := by decide +kernel
theorem dX4_millersTurn_39 : decode cX4_millersTurn 39 = .ok (.iconst 1, 1) := by decide +kernel
theorem dX4_millersTurn_40 : decode cX4_millersTurn 40 = .ok (.iadd, 1) := by decide +kernel
theorem dX4_millersTurn_41 : decode cX4_millersTurn 41 = .ok (.invokestatic 340, 3) := by decide +kernel
theorem dX4_millersTurn_44 : decode cX4_millersTurn 44 = .ok (.iload_n 3, 1) := by decide +kernel
theorem dX4_millersTurn_45 : decode cX4_millersTurn 45 = .ok (.invokevirtual 337, 3) := by decide +kernel
theorem dX4_millersTurn_48 : decode cX4_millersTurn 48 = .ok (.istore 6, 2) := by decide +kernel
theorem dX4_millersTurn_50 : decode cX4_millersTurn 50 = .ok (.iload 4, 2) := by decide +kernel
theorem dX4_millersTurn_52 : decode cX4_millersTurn 52 = .ok (.iload 5, 2) := by decide +kernel
theorem dX4_millersTurn_54 : decode cX4_millersTurn 54 = .ok (.iload 6, 2) := by decide +kernel
theorem dX4_millersTurn_56 : decode cX4_millersTurn 56 = .ok (.invokestatic 326, 3) := by decide +kernel
theorem dX4_millersTurn_59 : decode cX4_millersTurn 59 = .ok (.invokestatic 326, 3) := by decide +kernel
theorem dX4_millersTurn_62 : decode cX4_millersTurn 62 = .ok (.ireturn, 1) := by decide +kernel
theorem dX4_throwersTurn_0 : decode cX4_throwersTurn 0 = .ok (.iload_n 1, 1) := by decide +kernel
theorem dX4_throwersTurn_1 : decode cX4_throwersTurn 1 = .ok (.ifCond .gt 10, 3) := by decide +kernel
theorem dX4_throwersTurn_4 : decode cX4_throwersTurn 4 = .ok (.aload_n 0, 1) := by decide +kernel
theorem dX4_throwersTurn_5 : decode cX4_throwersTurn 5 = .ok (.iload_n 2, 1) := by decide +kernel
theorem dX4_throwersTurn_6 : decode cX4_throwersTurn 6 = .ok (.iload_n 3, 1) := by decide +kernel
theorem dX4_throwersTurn_7 : decode cX4_throwersTurn 7 = .ok (.invokevirtual 334, 3) := by decide +kernel
theorem dX4_throwersTurn_10 : decode cX4_throwersTurn 10 = .ok (.ireturn, 1) := by decide +kernel
theorem dX4_throwersTurn_11 : decode cX4_throwersTurn 11 = .ok (.aload_n 0, 1) := by decide +kernel
theorem dX4_throwersTurn_12 : decode cX4_throwersTurn 12 = .ok (.iload_n 1, 1) := by decide +kernel
theorem dX4_throwersTurn_13 : decode cX4_throwersTurn 13 = .ok (.iconst 1, 1) := by decide +kernel
theorem dX4_throwersTurn_14 : decode cX4_throwersTurn 14 = .ok (.isub, 1) := by decide +kernel
theorem dX4_throwersTurn_15 : decode cX4_throwersTurn 15 = .ok (.iload_n 2, 1) := by decide +kernel
theorem dX4_throwersTurn_16 : decode cX4_throwersTurn 16 = .ok (.iload_n 3, 1) := by decide +kernel
theorem dX4_throwersTurn_17 : decode cX4_throwersTurn 17 = .ok (.invokevirtual 227, 3) := by decide +kernel
theorem dX4_throwersTurn_20 : decode cX4_throwersTurn 20 = .ok (.istore 4, 2) := by decide +kernel
theorem dX4_throwersTurn_22 : decode cX4_throwersTurn 22 = .ok (.aload_n 0, 1) := by decide +kernel
theorem dX4_throwersTurn_23 : decode cX4_throwersTurn 23 = .ok (.iload_n 1, 1) := by decide +kernel
theorem dX4_throwersTurn_24 : decode cX4_throwersTurn 24 = .ok (.iconst 1, 1) := by decide +kernel
theorem dX4_throwersTurn_25 : decode cX4_throwersTurn 25 = .ok (.isub, 1) := by decide +kernel
theorem dX4_throwersTurn_26 : decode cX4_throwersTurn 26 = .ok (.iload_n 2, 1) := by decide +kernel
theorem dX4_throwersTurn_27 : decode cX4_throwersTurn 27 = .ok (.bipush 40, 2) := by decide +kernel
theorem dX4_throwersTurn_29 : decode cX4_throwersTurn 29 = .ok (.iload_n 3, 1) := by decide +kernel
theorem dX4_throwersTurn_30 : decode cX4_throwersTurn 30 = .ok (.iconst 5, 1) := by decide +kernel
theorem dX4_throwersTurn_31 : decode cX4_throwersTurn 31 = .ok (.iadd, 1) := by decide +kernel
theorem dX4_throwersTurn_32 : decode cX4_throwersTurn 32 = .ok (.invokestatic 340, 3) := by decide +kernel
theorem dX4_throwersTurn_35 : decode cX4_throwersTurn 35 = .ok (.invokevirtual 227, 3) := by decide +kernel
theorem dX4_throwersTurn_38 : decode cX4_throwersTurn 38 = .ok (.istore 5, 2) := by decide +kernel
theorem dX4_throwersTurn_40 : decode cX4_throwersTurn 40 = .ok (.iload 4, 2) := by decide +kernel
theorem dX4_throwersTurn_42 : decode cX4_throwersTurn 42 = .ok (.iload 5, 2) := by decide +kernel
theorem dX4_throwersTurn_44 : decode cX4_throwersTurn 44 = .ok (.invokestatic 340, 3) := by decide +kernel
theorem dX4_throwersTurn_47 : decode cX4_throwersTurn 47 = .ok (.ireturn, 1) := by decide +kernel
theorem dX4_groundAfterDuel_0 : decode cX4_groundAfterDuel 0 = .ok (.aload_n 0, 1) := by decide +kernel
theorem dX4_groundAfterDuel_1 : decode cX4_groundAfterDuel 1 = .ok (.invokevirtual 182, 3) := by decide +kernel
theorem dX4_groundAfterDuel_4 : decode cX4_groundAfterDuel 4 = .ok (.aload_n 0, 1) := by decide +kernel
theorem dX4_groundAfterDuel_5 : decode cX4_groundAfterDuel 5 = .ok (.getfield 46, 3) := by decide +kernel
theorem dX4_groundAfterDuel_8 : decode cX4_groundAfterDuel 8 = .ok (.iload_n 1, 1) := by decide +kernel
theorem dX4_groundAfterDuel_9 : decode cX4_groundAfterDuel 9 = .ok (.putfield 166, 3) := by decide +kernel
theorem dX4_groundAfterDuel_12 : decode cX4_groundAfterDuel 12 = .ok (.aload_n 0, 1) := by decide +kernel
theorem dX4_groundAfterDuel_13 : decode cX4_groundAfterDuel 13 = .ok (.getfield 46, 3) := by decide +kernel
theorem dX4_groundAfterDuel_16 : decode cX4_groundAfterDuel 16 = .ok (.iload_n 2, 1) := by decide +kernel
theorem dX4_groundAfterDuel_17 : decode cX4_groundAfterDuel 17 = .ok (.putfield 169, 3) := by decide +kernel
theorem dX4_groundAfterDuel_20 : decode cX4_groundAfterDuel 20 = .ok (.iconst 0, 1) := by decide +kernel
theorem dX4_groundAfterDuel_21 : decode cX4_groundAfterDuel 21 = .ok (.istore_n 3, 1) := by decide +kernel
theorem dX4_groundAfterDuel_22 : decode cX4_groundAfterDuel 22 = .ok (.iload_n 3, 1) := by decide +kernel
theorem dX4_groundAfterDuel_23 : decode cX4_groundAfterDuel 23 = .ok (.bipush 8, 2) := by decide +kernel
theorem dX4_groundAfterDuel_25 : decode cX4_groundAfterDuel 25 = .ok (.if_icmp .ge 21, 3) := by decide +kernel
theorem dX4_groundAfterDuel_28 : decode cX4_groundAfterDuel 28 = .ok (.aload_n 0, 1) := by decide +kernel
theorem dX4_groundAfterDuel_29 : decode cX4_groundAfterDuel 29 = .ok (.getfield 46, 3) := by decide +kernel
theorem dX4_groundAfterDuel_32 : decode cX4_groundAfterDuel 32 = .ok (.aload_n 0, 1) := by decide +kernel
theorem dX4_groundAfterDuel_33 : decode cX4_groundAfterDuel 33 = .ok (.getfield 21, 3) := by decide +kernel
theorem dX4_groundAfterDuel_36 : decode cX4_groundAfterDuel 36 = .ok (.invokevirtual 189, 3) := by decide +kernel
theorem dX4_groundAfterDuel_39 : decode cX4_groundAfterDuel 39 = .ok (.pop, 1) := by decide +kernel
theorem dX4_groundAfterDuel_40 : decode cX4_groundAfterDuel 40 = .ok (.iinc 3 1, 3) := by decide +kernel
theorem dX4_groundAfterDuel_43 : decode cX4_groundAfterDuel 43 = .ok (.goto (-21), 3) := by decide +kernel
theorem dX4_groundAfterDuel_46 : decode cX4_groundAfterDuel 46 = .ok (.aload_n 0, 1) := by decide +kernel
theorem dX4_groundAfterDuel_47 : decode cX4_groundAfterDuel 47 = .ok (.getfield 46, 3) := by decide +kernel
theorem dX4_groundAfterDuel_50 : decode cX4_groundAfterDuel 50 = .ok (.getfield 196, 3) := by decide +kernel
theorem dX4_groundAfterDuel_53 : decode cX4_groundAfterDuel 53 = .ok (.ireturn, 1) := by decide +kernel
theorem dX4_weightOf_0 : decode cX4_weightOf 0 = .ok (.iload_n 0, 1) := by decide +kernel
theorem dX4_weightOf_1 : decode cX4_weightOf 1 = .ok (.invokestatic 199, 3) := by decide +kernel
theorem dX4_weightOf_4 : decode cX4_weightOf 4 = .ok (.istore_n 2, 1) := by decide +kernel
theorem dX4_weightOf_5 : decode cX4_weightOf 5 = .ok (.iload_n 1, 1) := by decide +kernel
theorem dX4_weightOf_6 : decode cX4_weightOf 6 = .ok (.iload_n 2, 1) := by decide +kernel
theorem dX4_weightOf_7 : decode cX4_weightOf 7 = .ok (.invokestatic 237, 3) := by decide +kernel
theorem dX4_weightOf_10 : decode cX4_weightOf 10 = .ok (.bipush 12, 2) := by decide +kernel
theorem dX4_weightOf_12 : decode cX4_weightOf 12 = .ok (.iload_n 1, 1) := by decide +kernel
theorem dX4_weightOf_13 : decode cX4_weightOf 13 = .ok (.isub, 1) := by decide +kernel
theorem dX4_weightOf_14 : decode cX4_weightOf 14 = .ok (.bipush 6, 2) := by decide +kernel
theorem dX4_weightOf_16 : decode cX4_weightOf 16 = .ok (.iload_n 2, 1) := by decide +kernel
theorem dX4_weightOf_17 : decode cX4_weightOf 17 = .ok (.isub, 1) := by decide +kernel
theorem dX4_weightOf_18 : decode cX4_weightOf 18 = .ok (.invokestatic 237, 3) := by decide +kernel
theorem dX4_weightOf_21 : decode cX4_weightOf 21 = .ok (.lmul, 1) := by decide +kernel
theorem dX4_weightOf_22 : decode cX4_weightOf 22 = .ok (.lreturn, 1) := by decide +kernel
theorem dX4_power_0 : decode cX4_power 0 = .ok (.lconst 1, 1) := by decide +kernel
theorem dX4_power_1 : decode cX4_power 1 = .ok (.lstore_n 2, 1) := by decide +kernel
theorem dX4_power_2 : decode cX4_power 2 = .ok (.iconst 0, 1) := by decide +kernel
theorem dX4_power_3 : decode cX4_power 3 = .ok (.istore 4, 2) := by decide +kernel
theorem dX4_power_5 : decode cX4_power 5 = .ok (.iload 4, 2) := by decide +kernel
theorem dX4_power_7 : decode cX4_power 7 = .ok (.iload_n 1, 1) := by decide +kernel
theorem dX4_power_8 : decode cX4_power 8 = .ok (.if_icmp .ge 14, 3) := by decide +kernel
theorem dX4_power_11 : decode cX4_power 11 = .ok (.lload_n 2, 1) := by decide +kernel
theorem dX4_power_12 : decode cX4_power 12 = .ok (.iload_n 0, 1) := by decide +kernel
theorem dX4_power_13 : decode cX4_power 13 = .ok (.i2l, 1) := by decide +kernel
theorem dX4_power_14 : decode cX4_power 14 = .ok (.lmul, 1) := by decide +kernel
theorem dX4_power_15 : decode cX4_power 15 = .ok (.lstore_n 2, 1) := by decide +kernel
theorem dX4_power_16 : decode cX4_power 16 = .ok (.iinc 4 1, 3) := by decide +kernel
theorem dX4_power_19 : decode cX4_power 19 = .ok (.goto (-14), 3) := by decide +kernel
theorem dX4_power_22 : decode cX4_power 22 = .ok (.lload_n 2, 1) := by decide +kernel
theorem dX4_power_23 : decode cX4_power 23 = .ok (.lreturn, 1) := by decide +kernel
theorem dX4_tell_0 : decode cX4_tell 0 = .ok (.lload_n 1, 1) := by decide +kernel
theorem dX4_tell_1 : decode cX4_tell 1 = .ok (.lload_n 3, 1) := by decide +kernel
theorem dX4_tell_2 : decode cX4_tell 2 = .ok (.invokestatic 343, 3) := by decide +kernel
theorem dX4_tell_5 : decode cX4_tell 5 = .ok (.lstore 5, 2) := by decide +kernel
theorem dX4_tell_7 : decode cX4_tell 7 = .ok (.lload 5, 2) := by decide +kernel
theorem dX4_tell_9 : decode cX4_tell 9 = .ok (.lconst 0, 1) := by decide +kernel
theorem dX4_tell_10 : decode cX4_tell 10 = .ok (.lcmp, 1) := by decide +kernel
theorem dX4_tell_11 : decode cX4_tell 11 = .ok (.ifCond .le 19, 3) := by decide +kernel
theorem dX4_tell_14 : decode cX4_tell 14 = .ok (.aload_n 0, 1) := by decide +kernel
theorem dX4_tell_15 : decode cX4_tell 15 = .ok (.lload_n 1, 1) := by decide +kernel
theorem dX4_tell_16 : decode cX4_tell 16 = .ok (.lload 5, 2) := by decide +kernel
theorem dX4_tell_18 : decode cX4_tell 18 = .ok (.ldiv, 1) := by decide +kernel
theorem dX4_tell_19 : decode cX4_tell 19 = .ok (.putfield 57, 3) := by decide +kernel
theorem dX4_tell_22 : decode cX4_tell 22 = .ok (.aload_n 0, 1) := by decide +kernel
theorem dX4_tell_23 : decode cX4_tell 23 = .ok (.lload_n 3, 1) := by decide +kernel
theorem dX4_tell_24 : decode cX4_tell 24 = .ok (.lload 5, 2) := by decide +kernel
theorem dX4_tell_26 : decode cX4_tell 26 = .ok (.ldiv, 1) := by decide +kernel
theorem dX4_tell_27 : decode cX4_tell 27 = .ok (.putfield 61, 3) := by decide +kernel
theorem dX4_tell_30 : decode cX4_tell 30 = .ok (.return_, 1) := by decide +kernel
theorem dX4_commonDivisor_0 : decode cX4_commonDivisor 0 = .ok (.lload_n 0, 1) := by decide +kernel
theorem dX4_commonDivisor_1 : decode cX4_commonDivisor 1 = .ok (.lstore 4, 2) := by decide +kernel
theorem dX4_commonDivisor_3 : decode cX4_commonDivisor 3 = .ok (.lload_n 2, 1) := by decide +kernel
theorem dX4_commonDivisor_4 : decode cX4_commonDivisor 4 = .ok (.lstore 6, 2) := by decide +kernel
theorem dX4_commonDivisor_6 : decode cX4_commonDivisor 6 = .ok (.iconst 0, 1) := by decide +kernel
theorem dX4_commonDivisor_7 : decode cX4_commonDivisor 7 = .ok (.istore 8, 2) := by decide +kernel
theorem dX4_commonDivisor_9 : decode cX4_commonDivisor 9 = .ok (.iload 8, 2) := by decide +kernel
theorem dX4_commonDivisor_11 : decode cX4_commonDivisor 11 = .ok (.bipush 100, 2) := by decide +kernel
theorem dX4_commonDivisor_13 : decode cX4_commonDivisor 13 = .ok (.if_icmp .ge 31, 3) := by decide +kernel
theorem dX4_commonDivisor_16 : decode cX4_commonDivisor 16 = .ok (.lload 6, 2) := by decide +kernel
theorem dX4_commonDivisor_18 : decode cX4_commonDivisor 18 = .ok (.lconst 0, 1) := by decide +kernel
theorem dX4_commonDivisor_19 : decode cX4_commonDivisor 19 = .ok (.lcmp, 1) := by decide +kernel
theorem dX4_commonDivisor_20 : decode cX4_commonDivisor 20 = .ok (.ifCond .eq 24, 3) := by decide +kernel
theorem dX4_commonDivisor_23 : decode cX4_commonDivisor 23 = .ok (.lload 4, 2) := by decide +kernel
theorem dX4_commonDivisor_25 : decode cX4_commonDivisor 25 = .ok (.lload 6, 2) := by decide +kernel
theorem dX4_commonDivisor_27 : decode cX4_commonDivisor 27 = .ok (.lrem, 1) := by decide +kernel
theorem dX4_commonDivisor_28 : decode cX4_commonDivisor 28 = .ok (.lstore 9, 2) := by decide +kernel
theorem dX4_commonDivisor_30 : decode cX4_commonDivisor 30 = .ok (.lload 6, 2) := by decide +kernel
theorem dX4_commonDivisor_32 : decode cX4_commonDivisor 32 = .ok (.lstore 4, 2) := by decide +kernel
theorem dX4_commonDivisor_34 : decode cX4_commonDivisor 34 = .ok (.lload 9, 2) := by decide +kernel
theorem dX4_commonDivisor_36 : decode cX4_commonDivisor 36 = .ok (.lstore 6, 2) := by decide +kernel
theorem dX4_commonDivisor_38 : decode cX4_commonDivisor 38 = .ok (.iinc 8 1, 3) := by decide +kernel
theorem dX4_commonDivisor_41 : decode cX4_commonDivisor 41 = .ok (.goto (-32), 3) := by decide +kernel
theorem dX4_commonDivisor_44 : decode cX4_commonDivisor 44 = .ok (.lload 4, 2) := by decide +kernel
theorem dX4_commonDivisor_46 : decode cX4_commonDivisor 46 = .ok (.lreturn, 1) := by decide +kernel
theorem dX4_stripsThere_0 : decode cX4_stripsThere 0 = .ok (.iconst 0, 1) := by decide +kernel
theorem dX4_stripsThere_1 : decode cX4_stripsThere 1 = .ok (.istore_n 1, 1) := by decide +kernel
theorem dX4_stripsThere_2 : decode cX4_stripsThere 2 = .ok (.iconst 0, 1) := by decide +kernel
theorem dX4_stripsThere_3 : decode cX4_stripsThere 3 = .ok (.istore_n 2, 1) := by decide +kernel
theorem dX4_stripsThere_4 : decode cX4_stripsThere 4 = .ok (.iload_n 2, 1) := by decide +kernel
theorem dX4_stripsThere_5 : decode cX4_stripsThere 5 = .ok (.aload_n 0, 1) := by decide +kernel
theorem dX4_stripsThere_6 : decode cX4_stripsThere 6 = .ok (.arraylength, 1) := by decide +kernel
theorem dX4_stripsThere_7 : decode cX4_stripsThere 7 = .ok (.if_icmp .ge 21, 3) := by decide +kernel
theorem dX4_stripsThere_10 : decode cX4_stripsThere 10 = .ok (.aload_n 0, 1) := by decide +kernel
theorem dX4_stripsThere_11 : decode cX4_stripsThere 11 = .ok (.iload_n 2, 1) := by decide +kernel
theorem dX4_stripsThere_12 : decode cX4_stripsThere 12 = .ok (.aaload, 1) := by decide +kernel
theorem dX4_stripsThere_13 : decode cX4_stripsThere 13 = .ok (.invokevirtual 94, 3) := by decide +kernel
theorem dX4_stripsThere_16 : decode cX4_stripsThere 16 = .ok (.ifCond .eq 6, 3) := by decide +kernel
theorem dX4_stripsThere_19 : decode cX4_stripsThere 19 = .ok (.iinc 1 1, 3) := by decide +kernel
theorem dX4_stripsThere_22 : decode cX4_stripsThere 22 = .ok (.iinc 2 1, 3) := by decide +kernel
theorem dX4_stripsThere_25 : decode cX4_stripsThere 25 = .ok (.goto (-21), 3) := by decide +kernel
theorem dX4_stripsThere_28 : decode cX4_stripsThere 28 = .ok (.iload_n 1, 1) := by decide +kernel
theorem dX4_stripsThere_29 : decode cX4_stripsThere 29 = .ok (.ireturn, 1) := by decide +kernel
theorem dX4_keptThere_0 : decode cX4_keptThere 0 = .ok (.iconst 0, 1) := by decide +kernel
theorem dX4_keptThere_1 : decode cX4_keptThere 1 = .ok (.istore_n 1, 1) := by decide +kernel
theorem dX4_keptThere_2 : decode cX4_keptThere 2 = .ok (.iconst 0, 1) := by decide +kernel
theorem dX4_keptThere_3 : decode cX4_keptThere 3 = .ok (.istore_n 2, 1) := by decide +kernel
theorem dX4_keptThere_4 : decode cX4_keptThere 4 = .ok (.iload_n 2, 1) := by decide +kernel
theorem dX4_keptThere_5 : decode cX4_keptThere 5 = .ok (.iconst 3, 1) := by decide +kernel
theorem dX4_keptThere_6 : decode cX4_keptThere 6 = .ok (.if_icmp .ge 24, 3) := by decide +kernel
theorem dX4_keptThere_9 : decode cX4_keptThere 9 = .ok (.aload_n 0, 1) := by decide +kernel
theorem dX4_keptThere_10 : decode cX4_keptThere 10 = .ok (.getfield 39, 3) := by decide +kernel
theorem dX4_keptThere_13 : decode cX4_keptThere 13 = .ok (.iload_n 2, 1) := by decide +kernel
theorem dX4_keptThere_14 : decode cX4_keptThere 14 = .ok (.aaload, 1) := by decide +kernel
theorem dX4_keptThere_15 : decode cX4_keptThere 15 = .ok (.getfield 72, 3) := by decide +kernel
theorem dX4_keptThere_18 : decode cX4_keptThere 18 = .ok (.ifCond .lt 6, 3) := by decide +kernel
theorem dX4_keptThere_21 : decode cX4_keptThere 21 = .ok (.iinc 1 1, 3) := by decide +kernel
theorem dX4_keptThere_24 : decode cX4_keptThere 24 = .ok (.iinc 2 1, 3) := by decide +kernel
theorem dX4_keptThere_27 : decode cX4_keptThere 27 = .ok (.goto (-23), 3) := by decide +kernel
theorem dX4_keptThere_30 : decode cX4_keptThere 30 = .ok (.iload_n 1, 1) := by decide +kernel
theorem dX4_keptThere_31 : decode cX4_keptThere 31 = .ok (.ireturn, 1) := by decide +kernel
