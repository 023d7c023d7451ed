theorem dX4_init_0 : decode cX4_init 0 = .ok (.aload_n 0, 1) := by decide +kernel
theorem dX4_init_1 : decode cX4_init 1 = .ok (.invokespecial 1, 3) := by decide +kernel
theorem dX4_init_4 : decode cX4_init 4 = .ok (.aload_n 0, 1) := by decide +kernel
theorem dX4_init_5 : decode cX4_init 5 = .ok (.bipush 6, 2) := by decide +kernel
theorem dX4_init_7 : decode cX4_init 7 = .ok (.anewarray 9, 3) := by decide +kernel
theorem dX4_init_10 : decode cX4_init 10 = .ok (.putfield 11, 3) := by decide +kernel
theorem dX4_init_13 : decode cX4_init 13 = .ok (.aload_n 0, 1) := by decide +kernel
theorem dX4_init_14 : decode cX4_init 14 = .ok (.iconst 4, 1) := by decide +kernel
theorem dX4_init_15 : decode cX4_init 15 = .ok (.anewarray 9, 3) := by decide +kernel
theorem dX4_init_18 : decode cX4_init 18 = .ok (.putfield 15, 3) := by decide +kernel
theorem dX4_init_21 : decode cX4_init 21 = .ok (.aload_n 0, 1) := by decide +kernel
theorem dX4_init_22 : decode cX4_init 22 = .ok (.new 18, 3) := by decide +kernel
theorem dX4_init_25 : decode cX4_init 25 = .ok (.dup, 1) := by decide +kernel
theorem dX4_init_26 : decode cX4_init 26 = .ok (.invokespecial 20, 3) := by decide +kernel
theorem dX4_init_29 : decode cX4_init 29 = .ok (.putfield 21, 3) := by decide +kernel
theorem dX4_init_32 : decode cX4_init 32 = .ok (.aload_n 0, 1) := by decide +kernel
theorem dX4_init_33 : decode cX4_init 33 = .ok (.new 25, 3) := by decide +kernel
theorem dX4_init_36 : decode cX4_init 36 = .ok (.dup, 1) := by decide +kernel
theorem dX4_init_37 : decode cX4_init 37 = .ok (.invokespecial 27, 3) := by decide +kernel
theorem dX4_init_40 : decode cX4_init 40 = .ok (.putfield 28, 3) := by decide +kernel
theorem dX4_init_43 : decode cX4_init 43 = .ok (.aload_n 0, 1) := by decide +kernel
theorem dX4_init_44 : decode cX4_init 44 = .ok (.new 32, 3) := by decide +kernel
theorem dX4_init_47 : decode cX4_init 47 = .ok (.dup, 1) := by decide +kernel
theorem dX4_init_48 : decode cX4_init 48 = .ok (.invokespecial 34, 3) := by decide +kernel
theorem dX4_init_51 : decode cX4_init 51 = .ok (.putfield 35, 3) := by decide +kernel
theorem dX4_init_54 : decode cX4_init 54 = .ok (.aload_n 0, 1) := by decide +kernel
theorem dX4_init_55 : decode cX4_init 55 = .ok (.iconst 3, 1) := by decide +kernel
theorem dX4_init_56 : decode cX4_init 56 = .ok (.anewarray 32, 3) := by decide +kernel
theorem dX4_init_59 : decode cX4_init 59 = .ok (.putfield 39, 3) := by decide +kernel
theorem dX4_init_62 : decode cX4_init 62 = .ok (.aload_n 0, 1) := by decide +kernel
theorem dX4_init_63 : decode cX4_init 63 = .ok (.new 18, 3) := by decide +kernel
theorem dX4_init_66 : decode cX4_init 66 = .ok (.dup, 1) := by decide +kernel
theorem dX4_init_67 : decode cX4_init 67 = .ok (.invokespecial 20, 3) := by decide +kernel
theorem dX4_init_70 : decode cX4_init 70 = .ok (.putfield 43, 3) := by decide +kernel
theorem dX4_init_73 : decode cX4_init 73 = .ok (.aload_n 0, 1) := by decide +kernel
theorem dX4_init_74 : decode cX4_init 74 = .ok (.new 25, 3) := by decide +kernel
theorem dX4_init_77 : decode cX4_init 77 = .ok (.dup, 1) := by decide +kernel
theorem dX4_init_78 : decode cX4_init 78 = .ok (.invokespecial 27, 3) := by decide +kernel
theorem dX4_init_81 : decode cX4_init 81 = .ok (.putfield 46, 3) := by decide +kernel
theorem dX4_init_84 : decode cX4_init 84 = .ok (.aload_n 0, 1) := by decide +kernel
theorem dX4_init_85 : decode cX4_init 85 = .ok (.iconst 5, 1) := by decide +kernel
theorem dX4_init_86 : decode cX4_init 86 = .ok (.anewarray 25, 3) := by decide +kernel
theorem dX4_init_89 : decode cX4_init 89 = .ok (.putfield 49, 3) := by decide +kernel
theorem dX4_init_92 : decode cX4_init 92 = .ok (.aload_n 0, 1) := by decide +kernel
theorem dX4_init_93 : decode cX4_init 93 = .ok (.iconst 0, 1) := by decide +kernel
theorem dX4_init_94 : decode cX4_init 94 = .ok (.putfield 53, 3) := by decide +kernel
theorem dX4_init_97 : decode cX4_init 97 = .ok (.aload_n 0, 1) := by decide +kernel
theorem dX4_init_98 : decode cX4_init 98 = .ok (.lconst 0, 1) := by decide +kernel
theorem dX4_init_99 : decode cX4_init 99 = .ok (.putfield 57, 3) := by decide +kernel
theorem dX4_init_102 : decode cX4_init 102 = .ok (.aload_n 0, 1) := by decide +kernel
theorem dX4_init_103 : decode cX4_init 103 = .ok (.lconst 1, 1) := by decide +kernel
theorem dX4_init_104 : decode cX4_init 104 = .ok (.putfield 61, 3) := by decide +kernel
theorem dX4_init_107 : decode cX4_init 107 = .ok (.aload_n 0, 1) := by decide +kernel
theorem dX4_init_108 : decode cX4_init 108 = .ok (.iconst 0, 1) := by decide +kernel
theorem dX4_init_109 : decode cX4_init 109 = .ok (.putfield 64, 3) := by decide +kernel
theorem dX4_init_112 : decode cX4_init 112 = .ok (.aload_n 0, 1) := by decide +kernel
theorem dX4_init_113 : decode cX4_init 113 = .ok (.bipush 6, 2) := by decide +kernel
theorem dX4_init_115 : decode cX4_init 115 = .ok (.newarray .int, 2) := by decide +kernel
theorem dX4_init_117 : decode cX4_init 117 = .ok (.putfield 67, 3) := by decide +kernel
theorem dX4_init_120 : decode cX4_init 120 = .ok (.iconst 0, 1) := by decide +kernel
theorem dX4_init_121 : decode cX4_init 121 = .ok (.istore_n 1, 1) := by decide +kernel
theorem dX4_init_122 : decode cX4_init 122 = .ok (.iload_n 1, 1) := by decide +kernel
theorem dX4_init_123 : decode cX4_init 123 = .ok (.bipush 6, 2) := by decide +kernel
theorem dX4_init_125 : decode cX4_init 125 = .ok (.if_icmp .ge 22, 3) := by decide +kernel
theorem dX4_init_128 : decode cX4_init 128 = .ok (.aload_n 0, 1) := by decide +kernel
theorem dX4_init_129 : decode cX4_init 129 = .ok (.getfield 11, 3) := by decide +kernel
theorem dX4_init_132 : decode cX4_init 132 = .ok (.iload_n 1, 1) := by decide +kernel
theorem dX4_init_133 : decode cX4_init 133 = .ok (.new 9, 3) := by decide +kernel
theorem dX4_init_136 : decode cX4_init 136 = .ok (.dup, 1) := by decide +kernel
theorem dX4_init_137 : decode cX4_init 137 = .ok (.invokespecial 71, 3) := by decide +kernel
theorem dX4_init_140 : decode cX4_init 140 = .ok (.aastore, 1) := by decide +kernel
theorem dX4_init_141 : decode cX4_init 141 = .ok (.iinc 1 1, 3) := by decide +kernel
theorem dX4_init_144 : decode cX4_init 144 = .ok (.goto (-22), 3) := by decide +kernel
theorem dX4_init_147 : decode cX4_init 147 = .ok (.iconst 0, 1) := by decide +kernel
theorem dX4_init_148 : decode cX4_init 148 = .ok (.istore_n 1, 1) := by decide +kernel
theorem dX4_init_149 : decode cX4_init 149 = .ok (.iload_n 1, 1) := by decide +kernel
theorem dX4_init_150 : decode cX4_init 150 = .ok (.iconst 4, 1) := by decide +kernel
theorem dX4_init_151 : decode cX4_init 151 = .ok (.if_icmp .ge 22, 3) := by decide +kernel
theorem dX4_init_154 : decode cX4_init 154 = .ok (.aload_n 0, 1) := by decide +kernel
theorem dX4_init_155 : decode cX4_init 155 = .ok (.getfield 15, 3) := by decide +kernel
theorem dX4_init_158 : decode cX4_init 158 = .ok (.iload_n 1, 1) := by decide +kernel
theorem dX4_init_159 : decode cX4_init 159 = .ok (.new 9, 3) := by decide +kernel
theorem dX4_init_162 : decode cX4_init 162 = .ok (.dup, 1) := by decide +kernel
theorem dX4_init_163 : decode cX4_init 163 = .ok (.invokespecial 71, 3) := by decide +kernel
theorem dX4_init_166 : decode cX4_init 166 = .ok (.aastore, 1) := by decide +kernel
theorem dX4_init_167 : decode cX4_init 167 = .ok (.iinc 1 1, 3) := by decide +kernel
theorem dX4_init_170 : decode cX4_init 170 = .ok (.goto (-21), 3) := by decide +kernel
theorem dX4_init_173 : decode cX4_init 173 = .ok (.iconst 0, 1) := by decide +kernel
theorem dX4_init_174 : decode cX4_init 174 = .ok (.istore_n 1, 1) := by decide +kernel
theorem dX4_init_175 : decode cX4_init 175 = .ok (.iload_n 1, 1) := by decide +kernel
theorem dX4_init_176 : decode cX4_init 176 = .ok (.iconst 3, 1) := by decide +kernel
theorem dX4_init_177 : decode cX4_init 177 = .ok (.if_icmp .ge 32, 3) := by decide +kernel
theorem dX4_init_180 : decode cX4_init 180 = .ok (.aload_n 0, 1) := by decide +kernel
theorem dX4_init_181 : decode cX4_init 181 = .ok (.getfield 39, 3) := by decide +kernel
theorem dX4_init_184 : decode cX4_init 184 = .ok (.iload_n 1, 1) := by decide +kernel
theorem dX4_init_185 : decode cX4_init 185 = .ok (.new 32, 3) := by decide +kernel
theorem dX4_init_188 : decode cX4_init 188 = .ok (.dup, 1) := by decide +kernel
theorem dX4_init_189 : decode cX4_init 189 = .ok (.invokespecial 34, 3) := by decide +kernel
theorem dX4_init_192 : decode cX4_init 192 = .ok (.aastore, 1) := by decide +kernel
theorem dX4_init_193 : decode cX4_init 193 = .ok (.aload_n 0, 1) := by decide +kernel
theorem dX4_init_194 : decode cX4_init 194 = .ok (.getfield 39, 3) := by decide +kernel
theorem dX4_init_197 : decode cX4_init 197 = .ok (.iload_n 1, 1) := by decide +kernel
theorem dX4_init_198 : decode cX4_init 198 = .ok (.aaload, 1) := by decide +kernel
theorem dX4_init_199 : decode cX4_init 199 = .ok (.iconst (-1), 1) := by decide +kernel
theorem dX4_init_200 : decode cX4_init 200 = .ok (.putfield 72, 3) := by decide +kernel
theorem dX4_init_203 : decode cX4_init 203 = .ok (.iinc 1 1, 3) := by decide +kernel
theorem dX4_init_206 : decode cX4_init 206 = .ok (.goto (-31), 3) := by decide +kernel
theorem dX4_init_209 : decode cX4_init 209 = .ok (.iconst 0, 1) := by decide +kernel
theorem dX4_init_210 : decode cX4_init 210 = .ok (.istore_n 1, 1) := by decide +kernel
theorem dX4_init_211 : decode cX4_init 211 = .ok (.iload_n 1, 1) := by decide +kernel
theorem dX4_init_212 : decode cX4_init 212 = .ok (.iconst 5, 1) := by decide +kernel
theorem dX4_init_213 : decode cX4_init 213 = .ok (.if_icmp .ge 22, 3) := by decide +kernel
theorem dX4_init_216 : decode cX4_init 216 = .ok (.aload_n 0, 1) := by decide +kernel
theorem dX4_init_217 : decode cX4_init 217 = .ok (.getfield 49, 3) := by decide +kernel
theorem dX4_init_220 : decode cX4_init 220 = .ok (.iload_n 1, 1) := by decide +kernel
theorem dX4_init_221 : decode cX4_init 221 = .ok (.new 25, 3) := by decide +kernel
theorem dX4_init_224 : decode cX4_init 224 = .ok (.dup, 1) := by decide +kernel
theorem dX4_init_225 : decode cX4_init 225 = .ok (.invokespecial 27, 3) := by decide +kernel
theorem dX4_init_228 : decode cX4_init 228 = .ok (.aastore, 1) := by decide +kernel
theorem dX4_init_229 : decode cX4_init 229 = .ok (.iinc 1 1, 3) := by decide +kernel
theorem dX4_init_232 : decode cX4_init 232 = .ok (.goto (-21), 3) := by decide +kernel
theorem dX4_init_235 : decode cX4_init 235 = .ok (.return_, 1) := by decide +kernel
theorem dX4_row_0 : decode cX4_row 0 = .ok (.iload_n 1, 1) := by decide +kernel
theorem dX4_row_1 : decode cX4_row 1 = .ok (.invokestatic 75, 3) := by decide +kernel
theorem dX4_row_4 : decode cX4_row 4 = .ok (.ifCond .eq 9, 3) := by decide +kernel
theorem dX4_row_7 : decode cX4_row 7 = .ok (.iload_n 2, 1) := by decide +kernel
theorem dX4_row_8 : decode cX4_row 8 = .ok (.bipush 40, 2) := by decide +kernel
theorem dX4_row_10 : decode cX4_row 10 = .ok (.if_icmp .le 5, 3) := by decide +kernel
theorem dX4_row_13 : decode cX4_row 13 = .ok (.iconst (-1), 1) := by decide +kernel
theorem dX4_row_14 : decode cX4_row 14 = .ok (.ireturn, 1) := by decide +kernel
theorem dX4_row_15 : decode cX4_row 15 = .ok (.iload_n 2, 1) := by decide +kernel
theorem dX4_row_16 : decode cX4_row 16 = .ok (.ifCond .ge 9, 3) := by decide +kernel
theorem dX4_row_19 : decode cX4_row 19 = .ok (.aload_n 0, 1) := by decide +kernel
theorem dX4_row_20 : decode cX4_row 20 = .ok (.iconst 5, 1) := by decide +kernel
theorem dX4_row_21 : decode cX4_row 21 = .ok (.invokevirtual 79, 3) := by decide +kernel
theorem dX4_row_24 : decode cX4_row 24 = .ok (.ireturn, 1) := by decide +kernel
theorem dX4_row_25 : decode cX4_row 25 = .ok (.aload_n 0, 1) := by decide +kernel
theorem dX4_row_26 : decode cX4_row 26 = .ok (.getfield 11, 3) := by decide +kernel
theorem dX4_row_29 : decode cX4_row 29 = .ok (.iload_n 1, 1) := by decide +kernel
theorem dX4_row_30 : decode cX4_row 30 = .ok (.aaload, 1) := by decide +kernel
theorem dX4_row_31 : decode cX4_row 31 = .ok (.iload_n 2, 1) := by decide +kernel
theorem dX4_row_32 : decode cX4_row 32 = .ok (.iconst 0, 1) := by decide +kernel
theorem dX4_row_33 : decode cX4_row 33 = .ok (.invokevirtual 83, 3) := by decide +kernel
theorem dX4_row_36 : decode cX4_row 36 = .ok (.iload_n 2, 1) := by decide +kernel
theorem dX4_row_37 : decode cX4_row 37 = .ok (.ireturn, 1) := by decide +kernel
theorem dX4_lay_0 : decode cX4_lay 0 = .ok (.iload_n 1, 1) := by decide +kernel
theorem dX4_lay_1 : decode cX4_lay 1 = .ok (.invokestatic 75, 3) := by decide +kernel
theorem dX4_lay_4 : decode cX4_lay 4 = .ok (.ifCond .ne 5, 3) := by decide +kernel
theorem dX4_lay_7 : decode cX4_lay 7 = .ok (.iconst (-1), 1) := by decide +kernel
theorem dX4_lay_8 : decode cX4_lay 8 = .ok (.ireturn, 1) := by decide +kernel
theorem dX4_lay_9 : decode cX4_lay 9 = .ok (.aload_n 0, 1) := by decide +kernel
theorem dX4_lay_10 : decode cX4_lay 10 = .ok (.getfield 11, 3) := by decide +kernel
theorem dX4_lay_13 : decode cX4_lay 13 = .ok (.iload_n 1, 1) := by decide +kernel
theorem dX4_lay_14 : decode cX4_lay 14 = .ok (.aaload, 1) := by decide +kernel
theorem dX4_lay_15 : decode cX4_lay 15 = .ok (.iload_n 2, 1) := by decide +kernel
theorem dX4_lay_16 : decode cX4_lay 16 = .ok (.invokestatic 87, 3) := by decide +kernel
theorem dX4_lay_19 : decode cX4_lay 19 = .ok (.istore 4, 2) := by decide +kernel
theorem dX4_lay_21 : decode cX4_lay 21 = .ok (.iload 4, 2) := by decide +kernel
theorem dX4_lay_23 : decode cX4_lay 23 = .ok (.ifCond .eq 10, 3) := by decide +kernel
theorem dX4_lay_26 : decode cX4_lay 26 = .ok (.aload_n 0, 1) := by decide +kernel
theorem dX4_lay_27 : decode cX4_lay 27 = .ok (.iload 4, 2) := by decide +kernel
theorem dX4_lay_29 : decode cX4_lay 29 = .ok (.invokevirtual 79, 3) := by decide +kernel
theorem dX4_lay_32 : decode cX4_lay 32 = .ok (.ireturn, 1) := by decide +kernel
theorem dX4_lay_33 : decode cX4_lay 33 = .ok (.aload_n 0, 1) := by decide +kernel
theorem dX4_lay_34 : decode cX4_lay 34 = .ok (.aload_n 0, 1) := by decide +kernel
theorem dX4_lay_35 : decode cX4_lay 35 = .ok (.getfield 11, 3) := by decide +kernel
theorem dX4_lay_38 : decode cX4_lay 38 = .ok (.iload_n 1, 1) := by decide +kernel
theorem dX4_lay_39 : decode cX4_lay 39 = .ok (.aaload, 1) := by decide +kernel
theorem dX4_lay_40 : decode cX4_lay 40 = .ok (.getfield 91, 3) := by decide +kernel
theorem dX4_lay_43 : decode cX4_lay 43 = .ok (.iload_n 2, 1) := by decide +kernel
theorem dX4_lay_44 : decode cX4_lay 44 = .ok (.iaload, 1) := by decide +kernel
theorem dX4_lay_45 : decode cX4_lay 45 = .ok (.putfield 53, 3) := by decide +kernel
theorem dX4_lay_48 : decode cX4_lay 48 = .ok (.aload_n 0, 1) := by decide +kernel
theorem dX4_lay_49 : decode cX4_lay 49 = .ok (.getfield 11, 3) := by decide +kernel
theorem dX4_lay_52 : decode cX4_lay 52 = .ok (.iload_n 1, 1) := by decide +kernel
theorem dX4_lay_53 : decode cX4_lay 53 = .ok (.aaload, 1) := by decide +kernel
theorem dX4_lay_54 : decode cX4_lay 54 = .ok (.getfield 91, 3) := by decide +kernel
theorem dX4_lay_57 : decode cX4_lay 57 = .ok (.iload_n 2, 1) := by decide +kernel
theorem dX4_lay_58 : decode cX4_lay 58 = .ok (.iload_n 3, 1) := by decide +kernel
theorem dX4_lay_59 : decode cX4_lay 59 = .ok (.iastore, 1) := by decide +kernel
theorem dX4_lay_60 : decode cX4_lay 60 = .ok (.iconst 1, 1) := by decide +kernel
theorem dX4_lay_61 : decode cX4_lay 61 = .ok (.ireturn, 1) := by decide +kernel
theorem dX4_at_0 : decode cX4_at 0 = .ok (.iload_n 1, 1) := by decide +kernel
theorem dX4_at_1 : decode cX4_at 1 = .ok (.invokestatic 75, 3) := by decide +kernel
theorem dX4_at_4 : decode cX4_at 4 = .ok (.ifCond .ne 5, 3) := by decide +kernel
theorem dX4_at_7 : decode cX4_at 7 = .ok (.iconst (-1), 1) := by decide +kernel
theorem dX4_at_8 : decode cX4_at 8 = .ok (.ireturn, 1) := by decide +kernel
theorem dX4_at_9 : decode cX4_at 9 = .ok (.aload_n 0, 1) := by decide +kernel
theorem dX4_at_10 : decode cX4_at 10 = .ok (.getfield 11, 3) := by decide +kernel
theorem dX4_at_13 : decode cX4_at 13 = .ok (.iload_n 1, 1) := by decide +kernel
theorem dX4_at_14 : decode cX4_at 14 = .ok (.aaload, 1) := by decide +kernel
theorem dX4_at_15 : decode cX4_at 15 = .ok (.iload_n 2, 1) := by decide +kernel
theorem dX4_at_16 : decode cX4_at 16 = .ok (.invokestatic 87, 3) := by decide +kernel
theorem dX4_at_19 : decode cX4_at 19 = .ok (.istore_n 3, 1) := by decide +kernel
theorem dX4_at_20 : decode cX4_at 20 = .ok (.iload_n 3, 1) := by decide +kernel
theorem dX4_at_21 : decode cX4_at 21 = .ok (.ifCond .eq 9, 3) := by decide +kernel
theorem dX4_at_24 : decode cX4_at 24 = .ok (.aload_n 0, 1) := by decide +kernel
theorem dX4_at_25 : decode cX4_at 25 = .ok (.iload_n 3, 1) := by decide +kernel
theorem dX4_at_26 : decode cX4_at 26 = .ok (.invokevirtual 79, 3) := by decide +kernel
theorem dX4_at_29 : decode cX4_at 29 = .ok (.ireturn, 1) := by decide +kernel
theorem dX4_at_30 : decode cX4_at 30 = .ok (.aload_n 0, 1) := by decide +kernel
theorem dX4_at_31 : decode cX4_at 31 = .ok (.aload_n 0, 1) := by decide +kernel
theorem dX4_at_32 : decode cX4_at 32 = .ok (.getfield 11, 3) := by decide +kernel
theorem dX4_at_35 : decode cX4_at 35 = .ok (.iload_n 1, 1) := by decide +kernel
theorem dX4_at_36 : decode cX4_at 36 = .ok (.aaload, 1) := by decide +kernel
theorem dX4_at_37 : decode cX4_at 37 = .ok (.getfield 91, 3) := by decide +kernel
theorem dX4_at_40 : decode cX4_at 40 = .ok (.iload_n 2, 1) := by decide +kernel
theorem dX4_at_41 : decode cX4_at 41 = .ok (.iaload, 1) := by decide +kernel
theorem dX4_at_42 : decode cX4_at 42 = .ok (.putfield 53, 3) := by decide +kernel
theorem dX4_at_45 : decode cX4_at 45 = .ok (.iconst 1, 1) := by decide +kernel
theorem dX4_at_46 : decode cX4_at 46 = .ok (.ireturn, 1) := by decide +kernel
theorem dX4_tear_0 : decode cX4_tear 0 = .ok (.iload_n 1, 1) := by decide +kernel
theorem dX4_tear_1 : decode cX4_tear 1 = .ok (.invokestatic 75, 3) := by decide +kernel
theorem dX4_tear_4 : decode cX4_tear 4 = .ok (.ifCond .ne 5, 3) := by decide +kernel
theorem dX4_tear_7 : decode cX4_tear 7 = .ok (.iconst (-1), 1) := by decide +kernel
theorem dX4_tear_8 : decode cX4_tear 8 = .ok (.ireturn, 1) := by decide +kernel
theorem dX4_tear_9 : decode cX4_tear 9 = .ok (.aload_n 0, 1) := by decide +kernel
theorem dX4_tear_10 : decode cX4_tear 10 = .ok (.getfield 11, 3) := by decide +kernel
theorem dX4_tear_13 : decode cX4_tear 13 = .ok (.iload_n 1, 1) := by decide +kernel
theorem dX4_tear_14 : decode cX4_tear 14 = .ok (.aaload, 1) := by decide +kernel
theorem dX4_tear_15 : decode cX4_tear 15 = .ok (.invokevirtual 94, 3) := by decide +kernel
theorem dX4_tear_18 : decode cX4_tear 18 = .ok (.ifCond .ne 9, 3) := by decide +kernel
theorem dX4_tear_21 : decode cX4_tear 21 = .ok (.aload_n 0, 1) := by decide +kernel
theorem dX4_tear_22 : decode cX4_tear 22 = .ok (.iconst 1, 1) := by decide +kernel
theorem dX4_tear_23 : decode cX4_tear 23 = .ok (.invokevirtual 79, 3) := by decide +kernel
theorem dX4_tear_26 : decode cX4_tear 26 = .ok (.ireturn, 1) := by decide +kernel
theorem dX4_tear_27 : decode cX4_tear 27 = .ok (.aload_n 0, 1) := by decide +kernel
theorem dX4_tear_28 : decode cX4_tear 28 = .ok (.getfield 11, 3) := by decide +kernel
theorem dX4_tear_31 : decode cX4_tear 31 = .ok (.iload_n 1, 1) := by decide +kernel
theorem dX4_tear_32 : decode cX4_tear 32 = .ok (.aaload, 1) := by decide +kernel
theorem dX4_tear_33 : decode cX4_tear 33 = .ok (.iconst (-1), 1) := by decide +kernel
theorem dX4_tear_34 : decode cX4_tear 34 = .ok (.putfield 98, 3) := by decide +kernel
theorem dX4_tear_37 : decode cX4_tear 37 = .ok (.iconst 1, 1) := by decide +kernel
theorem dX4_tear_38 : decode cX4_tear 38 = .ok (.ireturn, 1) := by decide +kernel
theorem dX4_copy_0 : decode cX4_copy 0 = .ok (.iload_n 1, 1) := by decide +kernel
theorem dX4_copy_1 : decode cX4_copy 1 = .ok (.invokestatic 75, 3) := by decide +kernel
theorem dX4_copy_4 : decode cX4_copy 4 = .ok (.ifCond .eq 10, 3) := by decide +kernel
theorem dX4_copy_7 : decode cX4_copy 7 = .ok (.iload_n 3, 1) := by decide +kernel
theorem dX4_copy_8 : decode cX4_copy 8 = .ok (.invokestatic 75, 3) := by decide +kernel
theorem dX4_copy_11 : decode cX4_copy 11 = .ok (.ifCond .ne 5, 3) := by decide +kernel
theorem dX4_copy_14 : decode cX4_copy 14 = .ok (.iconst (-1), 1) := by decide +kernel
theorem dX4_copy_15 : decode cX4_copy 15 = .ok (.ireturn, 1) := by decide +kernel
theorem dX4_copy_16 : decode cX4_copy 16 = .ok (.iload 5, 2) := by decide +kernel
theorem dX4_copy_18 : decode cX4_copy 18 = .ok (.ifCond .ge 9, 3) := by decide +kernel
theorem dX4_copy_21 : decode cX4_copy 21 = .ok (.aload_n 0, 1) := by decide +kernel
theorem dX4_copy_22 : decode cX4_copy 22 = .ok (.iconst 5, 1) := by decide +kernel
theorem dX4_copy_23 : decode cX4_copy 23 = .ok (.invokevirtual 79, 3) := by decide +kernel
theorem dX4_copy_26 : decode cX4_copy 26 = .ok (.ireturn, 1) := by decide +kernel
theorem dX4_copy_27 : decode cX4_copy 27 = .ok (.aload_n 0, 1) := by decide +kernel
theorem dX4_copy_28 : decode cX4_copy 28 = .ok (.getfield 11, 3) := by decide +kernel
theorem dX4_copy_31 : decode cX4_copy 31 = .ok (.iload_n 1, 1) := by decide +kernel
theorem dX4_copy_32 : decode cX4_copy 32 = .ok (.aaload, 1) := by decide +kernel
theorem dX4_copy_33 : decode cX4_copy 33 = .ok (.invokevirtual 94, 3) := by decide +kernel
theorem dX4_copy_36 : decode cX4_copy 36 = .ok (.ifCond .eq 15, 3) := by decide +kernel
theorem dX4_copy_39 : decode cX4_copy 39 = .ok (.aload_n 0, 1) := by decide +kernel
theorem dX4_copy_40 : decode cX4_copy 40 = .ok (.getfield 11, 3) := by decide +kernel
theorem dX4_copy_43 : decode cX4_copy 43 = .ok (.iload_n 3, 1) := by decide +kernel
theorem dX4_copy_44 : decode cX4_copy 44 = .ok (.aaload, 1) := by decide +kernel
theorem dX4_copy_45 : decode cX4_copy 45 = .ok (.invokevirtual 94, 3) := by decide +kernel
theorem dX4_copy_48 : decode cX4_copy 48 = .ok (.ifCond .ne 9, 3) := by decide +kernel
theorem dX4_copy_51 : decode cX4_copy 51 = .ok (.aload_n 0, 1) := by decide +kernel
theorem dX4_copy_52 : decode cX4_copy 52 = .ok (.iconst 1, 1) := by decide +kernel
theorem dX4_copy_53 : decode cX4_copy 53 = .ok (.invokevirtual 79, 3) := by decide +kernel
theorem dX4_copy_56 : decode cX4_copy 56 = .ok (.ireturn, 1) := by decide +kernel
theorem dX4_copy_57 : decode cX4_copy 57 = .ok (.aload_n 0, 1) := by decide +kernel
theorem dX4_copy_58 : decode cX4_copy 58 = .ok (.getfield 11, 3) := by decide +kernel
theorem dX4_copy_61 : decode cX4_copy 61 = .ok (.iload_n 1, 1) := by decide +kernel
theorem dX4_copy_62 : decode cX4_copy 62 = .ok (.aaload, 1) := by decide +kernel
theorem dX4_copy_63 : decode cX4_copy 63 = .ok (.iload_n 2, 1) := by decide +kernel
theorem dX4_copy_64 : decode cX4_copy 64 = .ok (.iload 5, 2) := by decide +kernel
theorem dX4_copy_66 : decode cX4_copy 66 = .ok (.invokevirtual 101, 3) := by decide +kernel
theorem dX4_copy_69 : decode cX4_copy 69 = .ok (.ifCond .eq 19, 3) := by decide +kernel
theorem dX4_copy_72 : decode cX4_copy 72 = .ok (.aload_n 0, 1) := by decide +kernel
theorem dX4_copy_73 : decode cX4_copy 73 = .ok (.getfield 11, 3) := by decide +kernel
theorem dX4_copy_76 : decode cX4_copy 76 = .ok (.iload_n 3, 1) := by decide +kernel
theorem dX4_copy_77 : decode cX4_copy 77 = .ok (.aaload, 1) := by decide +kernel
theorem dX4_copy_78 : decode cX4_copy 78 = .ok (.iload 4, 2) := by decide +kernel
theorem dX4_copy_80 : decode cX4_copy 80 = .ok (.iload 5, 2) := by decide +kernel
theorem dX4_copy_82 : decode cX4_copy 82 = .ok (.invokevirtual 101, 3) := by decide +kernel
theorem dX4_copy_85 : decode cX4_copy 85 = .ok (.ifCond .ne 9, 3) := by decide +kernel
theorem dX4_copy_88 : decode cX4_copy 88 = .ok (.aload_n 0, 1) := by decide +kernel
theorem dX4_copy_89 : decode cX4_copy 89 = .ok (.iconst 2, 1) := by decide +kernel
theorem dX4_copy_90 : decode cX4_copy 90 = .ok (.invokevirtual 79, 3) := by decide +kernel
theorem dX4_copy_93 : decode cX4_copy 93 = .ok (.ireturn, 1) := by decide +kernel
theorem dX4_copy_94 : decode cX4_copy 94 = .ok (.aload_n 0, 1) := by decide +kernel
theorem dX4_copy_95 : decode cX4_copy 95 = .ok (.getfield 11, 3) := by decide +kernel
theorem dX4_copy_98 : decode cX4_copy 98 = .ok (.iload_n 1, 1) := by decide +kernel
theorem dX4_copy_99 : decode cX4_copy 99 = .ok (.aaload, 1) := by decide +kernel
theorem dX4_copy_100 : decode cX4_copy 100 = .ok (.getfield 91, 3) := by decide +kernel
theorem dX4_copy_103 : decode cX4_copy 103 = .ok (.iload_n 2, 1) := by decide +kernel
theorem dX4_copy_104 : decode cX4_copy 104 = .ok (.aload_n 0, 1) := by decide +kernel
theorem dX4_copy_105 : decode cX4_copy 105 = .ok (.getfield 11, 3) := by decide +kernel
theorem dX4_copy_108 : decode cX4_copy 108 = .ok (.iload_n 3, 1) := by decide +kernel
theorem dX4_copy_109 : decode cX4_copy 109 = .ok (.aaload, 1) := by decide +kernel
theorem dX4_copy_110 : decode cX4_copy 110 = .ok (.getfield 91, 3) := by decide +kernel
theorem dX4_copy_113 : decode cX4_copy 113 = .ok (.iload 4, 2) := by decide +kernel
theorem dX4_copy_115 : decode cX4_copy 115 = .ok (.iload 5, 2) := by decide +kernel
theorem dX4_copy_117 : decode cX4_copy 117 = .ok (.invokestatic 105, 3) := by decide +kernel
theorem dX4_copy_120 : decode cX4_copy 120 = .ok (.iconst 1, 1) := by decide +kernel
theorem dX4_copy_121 : decode cX4_copy 121 = .ok (.ireturn, 1) := by decide +kernel
theorem dX4_mean_0 : decode cX4_mean 0 = .ok (.iload_n 1, 1) := by decide +kernel
theorem dX4_mean_1 : decode cX4_mean 1 = .ok (.invokestatic 75, 3) := by decide +kernel
theorem dX4_mean_4 : decode cX4_mean 4 = .ok (.ifCond .ne 5, 3) := by decide +kernel
theorem dX4_mean_7 : decode cX4_mean 7 = .ok (.iconst (-1), 1) := by decide +kernel
theorem dX4_mean_8 : decode cX4_mean 8 = .ok (.ireturn, 1) := by decide +kernel
theorem dX4_mean_9 : decode cX4_mean 9 = .ok (.aload_n 0, 1) := by decide +kernel
theorem dX4_mean_10 : decode cX4_mean 10 = .ok (.getfield 11, 3) := by decide +kernel
theorem dX4_mean_13 : decode cX4_mean 13 = .ok (.iload_n 1, 1) := by decide +kernel
theorem dX4_mean_14 : decode cX4_mean 14 = .ok (.aaload, 1) := by decide +kernel
theorem dX4_mean_15 : decode cX4_mean 15 = .ok (.invokevirtual 94, 3) := by decide +kernel
theorem dX4_mean_18 : decode cX4_mean 18 = .ok (.ifCond .ne 9, 3) := by decide +kernel
theorem dX4_mean_21 : decode cX4_mean 21 = .ok (.aload_n 0, 1) := by decide +kernel
theorem dX4_mean_22 : decode cX4_mean 22 = .ok (.iconst 1, 1) := by decide +kernel
theorem dX4_mean_23 : decode cX4_mean 23 = .ok (.invokevirtual 79, 3) := by decide +kernel
theorem dX4_mean_26 : decode cX4_mean 26 = .ok (.ireturn, 1) := by decide +kernel
theorem dX4_mean_27 : decode cX4_mean 27 = .ok (.aload_n 0, 1) := by decide +kernel
theorem dX4_mean_28 : decode cX4_mean 28 = .ok (.getfield 11, 3) := by decide +kernel
theorem dX4_mean_31 : decode cX4_mean 31 = .ok (.iload_n 1, 1) := by decide +kernel
theorem dX4_mean_32 : decode cX4_mean 32 = .ok (.aaload, 1) := by decide +kernel
theorem dX4_mean_33 : decode cX4_mean 33 = .ok (.getfield 98, 3) := by decide +kernel
theorem dX4_mean_36 : decode cX4_mean 36 = .ok (.ifCond .ne 9, 3) := by decide +kernel
theorem dX4_mean_39 : decode cX4_mean 39 = .ok (.aload_n 0, 1) := by decide +kernel
theorem dX4_mean_40 : decode cX4_mean 40 = .ok (.iconst 4, 1) := by decide +kernel
theorem dX4_mean_41 : decode cX4_mean 41 = .ok (.invokevirtual 79, 3) := by decide +kernel
theorem dX4_mean_44 : decode cX4_mean 44 = .ok (.ireturn, 1) := by decide +kernel
theorem dX4_mean_45 : decode cX4_mean 45 = .ok (.aload_n 0, 1) := by decide +kernel
theorem dX4_mean_46 : decode cX4_mean 46 = .ok (.aload_n 0, 1) := by decide +kernel
theorem dX4_mean_47 : decode cX4_mean 47 = .ok (.getfield 11, 3) := by decide +kernel
theorem dX4_mean_50 : decode cX4_mean 50 = .ok (.iload_n 1, 1) := by decide +kernel
theorem dX4_mean_51 : decode cX4_mean 51 = .ok (.aaload, 1) := by decide +kernel
theorem dX4_mean_52 : decode cX4_mean 52 = .ok (.invokevirtual 111, 3) := by decide +kernel
theorem dX4_mean_55 : decode cX4_mean 55 = .ok (.aload_n 0, 1) := by decide +kernel
theorem dX4_mean_56 : decode cX4_mean 56 = .ok (.getfield 11, 3) := by decide +kernel
theorem dX4_mean_59 : decode cX4_mean 59 = .ok (.iload_n 1, 1) := by decide +kernel
theorem dX4_mean_60 : decode cX4_mean 60 = .ok (.aaload, 1) := by decide +kernel
theorem dX4_mean_61 : decode cX4_mean 61 = .ok (.getfield 98, 3) := by decide +kernel
theorem dX4_mean_64 : decode cX4_mean 64 = .ok (.i2l, 1) := by decide +kernel
theorem dX4_mean_65 : decode cX4_mean 65 = .ok (.ldiv, 1) := by decide +kernel
theorem dX4_mean_66 : decode cX4_mean 66 = .ok (.l2i, 1) := by decide +kernel
theorem dX4_mean_67 : decode cX4_mean 67 = .ok (.putfield 53, 3) := by decide +kernel
theorem dX4_mean_70 : decode cX4_mean 70 = .ok (.iconst 1, 1) := by decide +kernel
theorem dX4_mean_71 : decode cX4_mean 71 = .ok (.ireturn, 1) := by decide +kernel
theorem dX4_text_0 : decode cX4_text 0 = .ok (.iload_n 1, 1) := by decide +kernel
theorem dX4_text_1 : decode cX4_text 1 = .ok (.invokestatic 115, 3) := by decide +kernel
theorem dX4_text_4 : decode cX4_text 4 = .ok (.ifCond .eq 9, 3) := by decide +kernel
theorem dX4_text_7 : decode cX4_text 7 = .ok (.iload_n 2, 1) := by decide +kernel
theorem dX4_text_8 : decode cX4_text 8 = .ok (.bipush 60, 2) := by decide +kernel
theorem dX4_text_10 : decode cX4_text 10 = .ok (.if_icmp .le 5, 3) := by decide +kernel
theorem dX4_text_13 : decode cX4_text 13 = .ok (.iconst (-1), 1) := by decide +kernel
theorem dX4_text_14 : decode cX4_text 14 = .ok (.ireturn, 1) := by decide +kernel
theorem dX4_text_15 : decode cX4_text 15 = .ok (.iload_n 2, 1) := by decide +kernel
theorem dX4_text_16 : decode cX4_text 16 = .ok (.ifCond .ge 9, 3) := by decide +kernel
theorem dX4_text_19 : decode cX4_text 19 = .ok (.aload_n 0, 1) := by decide +kernel
theorem dX4_text_20 : decode cX4_text 20 = .ok (.iconst 5, 1) := by decide +kernel
theorem dX4_text_21 : decode cX4_text 21 = .ok (.invokevirtual 79, 3) := by decide +kernel
theorem dX4_text_24 : decode cX4_text 24 = .ok (.ireturn, 1) := by decide +kernel
theorem dX4_text_25 : decode cX4_text 25 = .ok (.aload_n 0, 1) := by decide +kernel
theorem dX4_text_26 : decode cX4_text 26 = .ok (.getfield 15, 3) := by decide +kernel
theorem dX4_text_29 : decode cX4_text 29 = .ok (.iload_n 1, 1) := by decide +kernel
theorem dX4_text_30 : decode cX4_text 30 = .ok (.aaload, 1) := by decide +kernel
theorem dX4_text_31 : decode cX4_text 31 = .ok (.iload_n 2, 1) := by decide +kernel
theorem dX4_text_32 : decode cX4_text 32 = .ok (.bipush 32, 2) := by decide +kernel
theorem dX4_text_34 : decode cX4_text 34 = .ok (.invokevirtual 83, 3) := by decide +kernel
theorem dX4_text_37 : decode cX4_text 37 = .ok (.iload_n 2, 1) := by decide +kernel
theorem dX4_text_38 : decode cX4_text 38 = .ok (.ireturn, 1) := by decide +kernel
theorem dX4_put_0 : decode cX4_put 0 = .ok (.iload_n 1, 1) := by decide +kernel
theorem dX4_put_1 : decode cX4_put 1 = .ok (.invokestatic 115, 3) := by decide +kernel
theorem dX4_put_4 : decode cX4_put 4 = .ok (.ifCond .ne 5, 3) := by decide +kernel
theorem dX4_put_7 : decode cX4_put 7 = .ok (.iconst (-1), 1) := by decide +kernel
theorem dX4_put_8 : decode cX4_put 8 = .ok (.ireturn, 1) := by decide +kernel
theorem dX4_put_9 : decode cX4_put 9 = .ok (.aload_n 0, 1) := by decide +kernel
theorem dX4_put_10 : decode cX4_put 10 = .ok (.getfield 15, 3) := by decide +kernel
theorem dX4_put_13 : decode cX4_put 13 = .ok (.iload_n 1, 1) := by decide +kernel
theorem dX4_put_14 : decode cX4_put 14 = .ok (.aaload, 1) := by decide +kernel
theorem dX4_put_15 : decode cX4_put 15 = .ok (.iload_n 2, 1) := by decide +kernel
theorem dX4_put_16 : decode cX4_put 16 = .ok (.invokestatic 87, 3) := by decide +kernel
theorem dX4_put_19 : decode cX4_put 19 = .ok (.istore 4, 2) := by decide +kernel
theorem dX4_put_21 : decode cX4_put 21 = .ok (.iload 4, 2) := by decide +kernel
theorem dX4_put_23 : decode cX4_put 23 = .ok (.ifCond .eq 10, 3) := by decide +kernel
theorem dX4_put_26 : decode cX4_put 26 = .ok (.aload_n 0, 1) := by decide +kernel
theorem dX4_put_27 : decode cX4_put 27 = .ok (.iload 4, 2) := by decide +kernel
theorem dX4_put_29 : decode cX4_put 29 = .ok (.invokevirtual 79, 3) := by decide +kernel
theorem dX4_put_32 : decode cX4_put 32 = .ok (.ireturn, 1) := by decide +kernel
theorem dX4_put_33 : decode cX4_put 33 = .ok (.aload_n 0, 1) := by decide +kernel
theorem dX4_put_34 : decode cX4_put 34 = .ok (.getfield 15, 3) := by decide +kernel
theorem dX4_put_37 : decode cX4_put 37 = .ok (.iload_n 1, 1) := by decide +kernel
theorem dX4_put_38 : decode cX4_put 38 = .ok (.aaload, 1) := by decide +kernel
theorem dX4_put_39 : decode cX4_put 39 = .ok (.getfield 91, 3) := by decide +kernel
theorem dX4_put_42 : decode cX4_put 42 = .ok (.iload_n 2, 1) := by decide +kernel
theorem dX4_put_43 : decode cX4_put 43 = .ok (.iaload, 1) := by decide +kernel
theorem dX4_put_44 : decode cX4_put 44 = .ok (.istore 5, 2) := by decide +kernel
theorem dX4_put_46 : decode cX4_put 46 = .ok (.aload_n 0, 1) := by decide +kernel
theorem dX4_put_47 : decode cX4_put 47 = .ok (.getfield 15, 3) := by decide +kernel
theorem dX4_put_50 : decode cX4_put 50 = .ok (.iload_n 1, 1) := by decide +kernel
theorem dX4_put_51 : decode cX4_put 51 = .ok (.aaload, 1) := by decide +kernel
theorem dX4_put_52 : decode cX4_put 52 = .ok (.getfield 91, 3) := by decide +kernel
theorem dX4_put_55 : decode cX4_put 55 = .ok (.iload_n 2, 1) := by decide +kernel
theorem dX4_put_56 : decode cX4_put 56 = .ok (.iload_n 3, 1) := by decide +kernel
theorem dX4_put_57 : decode cX4_put 57 = .ok (.i2b, 1) := by decide +kernel
theorem dX4_put_58 : decode cX4_put 58 = .ok (.iastore, 1) := by decide +kernel
theorem dX4_put_59 : decode cX4_put 59 = .ok (.iload 5, 2) := by decide +kernel
theorem dX4_put_61 : decode cX4_put 61 = .ok (.sipush 1000, 3) := by decide +kernel
theorem dX4_put_64 : decode cX4_put 64 = .ok (.iadd, 1) := by decide +kernel
theorem dX4_put_65 : decode cX4_put 65 = .ok (.ireturn, 1) := by decide +kernel
theorem dX4_fault_0 : decode cX4_fault 0 = .ok (.iload_n 1, 1) := by decide +kernel
theorem dX4_fault_1 : decode cX4_fault 1 = .ok (.invokestatic 115, 3) := by decide +kernel
theorem dX4_fault_4 : decode cX4_fault 4 = .ok (.ifCond .ne 5, 3) := by decide +kernel
theorem dX4_fault_7 : decode cX4_fault 7 = .ok (.iconst (-1), 1) := by decide +kernel
theorem dX4_fault_8 : decode cX4_fault 8 = .ok (.ireturn, 1) := by decide +kernel
theorem dX4_fault_9 : decode cX4_fault 9 = .ok (.aload_n 0, 1) := by decide +kernel
theorem dX4_fault_10 : decode cX4_fault 10 = .ok (.getfield 15, 3) := by decide +kernel
theorem dX4_fault_13 : decode cX4_fault 13 = .ok (.iload_n 1, 1) := by decide +kernel
theorem dX4_fault_14 : decode cX4_fault 14 = .ok (.aaload, 1) := by decide +kernel
theorem dX4_fault_15 : decode cX4_fault 15 = .ok (.invokevirtual 94, 3) := by decide +kernel
theorem dX4_fault_18 : decode cX4_fault 18 = .ok (.ifCond .ne 9, 3) := by decide +kernel
theorem dX4_fault_21 : decode cX4_fault 21 = .ok (.aload_n 0, 1) := by decide +kernel
theorem dX4_fault_22 : decode cX4_fault 22 = .ok (.iconst 1, 1) := by decide +kernel
theorem dX4_fault_23 : decode cX4_fault 23 = .ok (.invokevirtual 79, 3) := by decide +kernel
theorem dX4_fault_26 : decode cX4_fault 26 = .ok (.ireturn, 1) := by decide +kernel
theorem dX4_fault_27 : decode cX4_fault 27 = .ok (.aload_n 0, 1) := by decide +kernel
theorem dX4_fault_28 : decode cX4_fault 28 = .ok (.getfield 15, 3) := by decide +kernel
theorem dX4_fault_31 : decode cX4_fault 31 = .ok (.iload_n 1, 1) := by decide +kernel
theorem dX4_fault_32 : decode cX4_fault 32 = .ok (.aaload, 1) := by decide +kernel
theorem dX4_fault_33 : decode cX4_fault 33 = .ok (.invokestatic 118, 3) := by decide +kernel
theorem dX4_fault_36 : decode cX4_fault 36 = .ok (.ireturn, 1) := by decide +kernel
theorem dX4_leat_0 : decode cX4_leat 0 = .ok (.iload_n 1, 1) := by decide +kernel
theorem dX4_leat_1 : decode cX4_leat 1 = .ok (.invokestatic 115, 3) := by decide +kernel
theorem dX4_leat_4 : decode cX4_leat 4 = .ok (.ifCond .ne 5, 3) := by decide +kernel
theorem dX4_leat_7 : decode cX4_leat 7 = .ok (.iconst (-1), 1) := by decide +kernel
theorem dX4_leat_8 : decode cX4_leat 8 = .ok (.ireturn, 1) := by decide +kernel
theorem dX4_leat_9 : decode cX4_leat 9 = .ok (.aload_n 0, 1) := by decide +kernel
theorem dX4_leat_10 : decode cX4_leat 10 = .ok (.getfield 15, 3) := by decide +kernel
theorem dX4_leat_13 : decode cX4_leat 13 = .ok (.iload_n 1, 1) := by decide +kernel
theorem dX4_leat_14 : decode cX4_leat 14 = .ok (.aaload, 1) := by decide +kernel
theorem dX4_leat_15 : decode cX4_leat 15 = .ok (.invokevirtual 94, 3) := by decide +kernel
theorem dX4_leat_18 : decode cX4_leat 18 = .ok (.ifCond .ne 9, 3) := by decide +kernel
theorem dX4_leat_21 : decode cX4_leat 21 = .ok (.aload_n 0, 1) := by decide +kernel
theorem dX4_leat_22 : decode cX4_leat 22 = .ok (.iconst 1, 1) := by decide +kernel
theorem dX4_leat_23 : decode cX4_leat 23 = .ok (.invokevirtual 79, 3) := by decide +kernel
theorem dX4_leat_26 : decode cX4_leat 26 = .ok (.ireturn, 1) := by decide +kernel
theorem dX4_leat_27 : decode cX4_leat 27 = .ok (.aload_n 0, 1) := by decide +kernel
theorem dX4_leat_28 : decode cX4_leat 28 = .ok (.getfield 15, 3) := by decide +kernel
theorem dX4_leat_31 : decode cX4_leat 31 = .ok (.iload_n 1, 1) := by decide +kernel
theorem dX4_leat_32 : decode cX4_leat 32 = .ok (.aaload, 1) := by decide +kernel
theorem dX4_leat_33 : decode cX4_leat 33 = .ok (.invokestatic 118, 3) := by decide +kernel
theorem dX4_leat_36 : decode cX4_leat 36 = .ok (.bipush (-9), 2) := by decide +kernel
theorem dX4_leat_38 : decode cX4_leat 38 = .ok (.if_icmp .eq 6, 3) := by decide +kernel
theorem dX4_leat_41 : decode cX4_leat 41 = .ok (.bipush (-4), 2) := by decide +kernel
theorem dX4_leat_43 : decode cX4_leat 43 = .ok (.ireturn, 1) := by decide +kernel
theorem dX4_leat_44 : decode cX4_leat 44 = .ok (.aload_n 0, 1) := by decide +kernel
theorem dX4_leat_45 : decode cX4_leat 45 = .ok (.getfield 21, 3) := by decide +kernel
theorem dX4_leat_48 : decode cX4_leat 48 = .ok (.aload_n 0, 1) := by decide +kernel
theorem dX4_leat_49 : decode cX4_leat 49 = .ok (.getfield 15, 3) := by decide +kernel
theorem dX4_leat_52 : decode cX4_leat 52 = .ok (.iload_n 1, 1) := by decide +kernel
theorem dX4_leat_53 : decode cX4_leat 53 = .ok (.aaload, 1) := by decide +kernel
theorem dX4_leat_54 : decode cX4_leat 54 = .ok (.invokevirtual 122, 3) := by decide +kernel
theorem dX4_leat_57 : decode cX4_leat 57 = .ok (.aload_n 0, 1) := by decide +kernel
theorem dX4_leat_58 : decode cX4_leat 58 = .ok (.getfield 35, 3) := by decide +kernel
theorem dX4_leat_61 : decode cX4_leat 61 = .ok (.iconst 0, 1) := by decide +kernel
theorem dX4_leat_62 : decode cX4_leat 62 = .ok (.putfield 72, 3) := by decide +kernel
theorem dX4_leat_65 : decode cX4_leat 65 = .ok (.aload_n 0, 1) := by decide +kernel
theorem dX4_leat_66 : decode cX4_leat 66 = .ok (.invokevirtual 126, 3) := by decide +kernel
theorem dX4_leat_69 : decode cX4_leat 69 = .ok (.iconst 0, 1) := by decide +kernel
theorem dX4_leat_70 : decode cX4_leat 70 = .ok (.istore_n 2, 1) := by decide +kernel
theorem dX4_leat_71 : decode cX4_leat 71 = .ok (.iload_n 2, 1) := by decide +kernel
theorem dX4_leat_72 : decode cX4_leat 72 = .ok (.iconst 3, 1) := by decide +kernel
theorem dX4_leat_73 : decode cX4_leat 73 = .ok (.if_icmp .ge 19, 3) := by decide +kernel
theorem dX4_leat_76 : decode cX4_leat 76 = .ok (.aload_n 0, 1) := by decide +kernel
theorem dX4_leat_77 : decode cX4_leat 77 = .ok (.getfield 39, 3) := by decide +kernel
theorem dX4_leat_80 : decode cX4_leat 80 = .ok (.iload_n 2, 1) := by decide +kernel
theorem dX4_leat_81 : decode cX4_leat 81 = .ok (.aaload, 1) := by decide +kernel
theorem dX4_leat_82 : decode cX4_leat 82 = .ok (.iconst (-1), 1) := by decide +kernel
theorem dX4_leat_83 : decode cX4_leat 83 = .ok (.putfield 72, 3) := by decide +kernel
theorem dX4_leat_86 : decode cX4_leat 86 = .ok (.iinc 2 1, 3) := by decide +kernel
theorem dX4_leat_89 : decode cX4_leat 89 = .ok (.goto (-18), 3) := by decide +kernel
theorem dX4_leat_92 : decode cX4_leat 92 = .ok (.aload_n 0, 1) := by decide +kernel
theorem dX4_leat_93 : decode cX4_leat 93 = .ok (.getfield 21, 3) := by decide +kernel
theorem dX4_leat_96 : decode cX4_leat 96 = .ok (.getfield 129, 3) := by decide +kernel
theorem dX4_leat_99 : decode cX4_leat 99 = .ok (.ireturn, 1) := by decide +kernel
theorem dX4_day_0 : decode cX4_day 0 = .ok (.aload_n 0, 1) := by decide +kernel
theorem dX4_day_1 : decode cX4_day 1 = .ok (.iload_n 1, 1) := by decide +kernel
theorem dX4_day_2 : decode cX4_day 2 = .ok (.invokevirtual 130, 3) := by decide +kernel
theorem dX4_day_5 : decode cX4_day 5 = .ok (.ifCond .eq 12, 3) := by decide +kernel
theorem dX4_day_8 : decode cX4_day 8 = .ok (.iload_n 2, 1) := by decide +kernel
theorem dX4_day_9 : decode cX4_day 9 = .ok (.iconst 0, 1) := by decide +kernel
theorem dX4_day_10 : decode cX4_day 10 = .ok (.iconst 5, 1) := by decide +kernel
theorem dX4_day_11 : decode cX4_day 11 = .ok (.invokestatic 133, 3) := by decide +kernel
theorem dX4_day_14 : decode cX4_day 14 = .ok (.ifCond .ne 5, 3) := by decide +kernel
theorem dX4_day_17 : decode cX4_day 17 = .ok (.iconst (-1), 1) := by decide +kernel
theorem dX4_day_18 : decode cX4_day 18 = .ok (.ireturn, 1) := by decide +kernel
theorem dX4_day_19 : decode cX4_day 19 = .ok (.aload_n 0, 1) := by decide +kernel
theorem dX4_day_20 : decode cX4_day 20 = .ok (.aload_n 0, 1) := by decide +kernel
theorem dX4_day_21 : decode cX4_day 21 = .ok (.iload_n 1, 1) := by decide +kernel
theorem dX4_day_22 : decode cX4_day 22 = .ok (.iload_n 2, 1) := by decide +kernel
theorem dX4_day_23 : decode cX4_day 23 = .ok (.invokevirtual 137, 3) := by decide +kernel
theorem dX4_day_26 : decode cX4_day 26 = .ok (.putfield 53, 3) := by decide +kernel
theorem dX4_day_29 : decode cX4_day 29 = .ok (.iconst 1, 1) := by decide +kernel
theorem dX4_day_30 : decode cX4_day 30 = .ok (.ireturn, 1) := by decide +kernel
theorem dX4_mark_0 : decode cX4_mark 0 = .ok (.aload_n 0, 1) := by decide +kernel
theorem dX4_mark_1 : decode cX4_mark 1 = .ok (.iload_n 1, 1) := by decide +kernel
theorem dX4_mark_2 : decode cX4_mark 2 = .ok (.invokevirtual 130, 3) := by decide +kernel
theorem dX4_mark_5 : decode cX4_mark 5 = .ok (.ifCond .eq 12, 3) := by decide +kernel
theorem dX4_mark_8 : decode cX4_mark 8 = .ok (.iload_n 2, 1) := by decide +kernel
theorem dX4_mark_9 : decode cX4_mark 9 = .ok (.iconst 1, 1) := by decide +kernel
theorem dX4_mark_10 : decode cX4_mark 10 = .ok (.iconst 5, 1) := by decide +kernel
theorem dX4_mark_11 : decode cX4_mark 11 = .ok (.invokestatic 133, 3) := by decide +kernel
theorem dX4_mark_14 : decode cX4_mark 14 = .ok (.ifCond .ne 5, 3) := by decide +kernel
theorem dX4_mark_17 : decode cX4_mark 17 = .ok (.iconst (-1), 1) := by decide +kernel
theorem dX4_mark_18 : decode cX4_mark 18 = .ok (.ireturn, 1) := by decide +kernel
theorem dX4_mark_19 : decode cX4_mark 19 = .ok (.aload_n 0, 1) := by decide +kernel
theorem dX4_mark_20 : decode cX4_mark 20 = .ok (.getfield 21, 3) := by decide +kernel
theorem dX4_mark_23 : decode cX4_mark 23 = .ok (.getfield 141, 3) := by decide +kernel
theorem dX4_mark_26 : decode cX4_mark 26 = .ok (.iload_n 1, 1) := by decide +kernel
theorem dX4_mark_27 : decode cX4_mark 27 = .ok (.iaload, 1) := by decide +kernel
theorem dX4_mark_28 : decode cX4_mark 28 = .ok (.iload_n 2, 1) := by decide +kernel
theorem dX4_mark_29 : decode cX4_mark 29 = .ok (.invokestatic 144, 3) := by decide +kernel
theorem dX4_mark_32 : decode cX4_mark 32 = .ok (.ifCond .ne 9, 3) := by decide +kernel
theorem dX4_mark_35 : decode cX4_mark 35 = .ok (.aload_n 0, 1) := by decide +kernel
theorem dX4_mark_36 : decode cX4_mark 36 = .ok (.iconst 3, 1) := by decide +kernel
theorem dX4_mark_37 : decode cX4_mark 37 = .ok (.invokevirtual 79, 3) := by decide +kernel
theorem dX4_mark_40 : decode cX4_mark 40 = .ok (.ireturn, 1) := by decide +kernel
theorem dX4_mark_41 : decode cX4_mark 41 = .ok (.aload_n 0, 1) := by decide +kernel
theorem dX4_mark_42 : decode cX4_mark 42 = .ok (.iload_n 1, 1) := by decide +kernel
theorem dX4_mark_43 : decode cX4_mark 43 = .ok (.iload_n 2, 1) := by decide +kernel
theorem dX4_mark_44 : decode cX4_mark 44 = .ok (.invokevirtual 147, 3) := by decide +kernel
theorem dX4_mark_47 : decode cX4_mark 47 = .ok (.bipush 100, 2) := by decide +kernel
theorem dX4_mark_49 : decode cX4_mark 49 = .ok (.iadd, 1) := by decide +kernel
theorem dX4_mark_50 : decode cX4_mark 50 = .ok (.ireturn, 1) := by decide +kernel
theorem dX4_grinds_0 : decode cX4_grinds 0 = .ok (.aload_n 0, 1) := by decide +kernel
theorem dX4_grinds_1 : decode cX4_grinds 1 = .ok (.iload_n 1, 1) := by decide +kernel
theorem dX4_grinds_2 : decode cX4_grinds 2 = .ok (.invokevirtual 130, 3) := by decide +kernel
theorem dX4_grinds_5 : decode cX4_grinds 5 = .ok (.ifCond .eq 22, 3) := by decide +kernel
theorem dX4_grinds_8 : decode cX4_grinds 8 = .ok (.iload_n 2, 1) := by decide +kernel
theorem dX4_grinds_9 : decode cX4_grinds 9 = .ok (.iconst 0, 1) := by decide +kernel
theorem dX4_grinds_10 : decode cX4_grinds 10 = .ok (.iconst 4, 1) := by decide +kernel
theorem dX4_grinds_11 : decode cX4_grinds 11 = .ok (.invokestatic 133, 3) := by decide +kernel
theorem dX4_grinds_14 : decode cX4_grinds 14 = .ok (.ifCond .eq 13, 3) := by decide +kernel
theorem dX4_grinds_17 : decode cX4_grinds 17 = .ok (.iload_n 3, 1) := by decide +kernel
theorem dX4_grinds_18 : decode cX4_grinds 18 = .ok (.iconst 0, 1) := by decide +kernel
theorem dX4_grinds_19 : decode cX4_grinds 19 = .ok (.bipush 40, 2) := by decide +kernel
theorem dX4_grinds_21 : decode cX4_grinds 21 = .ok (.invokestatic 133, 3) := by decide +kernel
theorem dX4_grinds_24 : decode cX4_grinds 24 = .ok (.ifCond .ne 5, 3) := by decide +kernel
theorem dX4_grinds_27 : decode cX4_grinds 27 = .ok (.iconst (-1), 1) := by decide +kernel
theorem dX4_grinds_28 : decode cX4_grinds 28 = .ok (.ireturn, 1) := by decide +kernel
theorem dX4_grinds_29 : decode cX4_grinds 29 = .ok (.aload_n 0, 1) := by decide +kernel
theorem dX4_grinds_30 : decode cX4_grinds 30 = .ok (.getfield 21, 3) := by decide +kernel
theorem dX4_grinds_33 : decode cX4_grinds 33 = .ok (.iload_n 1, 1) := by decide +kernel
theorem dX4_grinds_34 : decode cX4_grinds 34 = .ok (.iload_n 2, 1) := by decide +kernel
theorem dX4_grinds_35 : decode cX4_grinds 35 = .ok (.iload_n 3, 1) := by decide +kernel
theorem dX4_grinds_36 : decode cX4_grinds 36 = .ok (.invokevirtual 150, 3) := by decide +kernel
theorem dX4_grinds_39 : decode cX4_grinds 39 = .ok (.ireturn, 1) := by decide +kernel
theorem dX4_step_0 : decode cX4_step 0 = .ok (.aload_n 0, 1) := by decide +kernel
theorem dX4_step_1 : decode cX4_step 1 = .ok (.invokevirtual 154, 3) := by decide +kernel
theorem dX4_step_4 : decode cX4_step 4 = .ok (.ifCond .eq 6, 3) := by decide +kernel
theorem dX4_step_7 : decode cX4_step 7 = .ok (.bipush (-4), 2) := by decide +kernel
theorem dX4_step_9 : decode cX4_step 9 = .ok (.ireturn, 1) := by decide +kernel
theorem dX4_step_10 : decode cX4_step 10 = .ok (.aload_n 0, 1) := by decide +kernel
theorem dX4_step_11 : decode cX4_step 11 = .ok (.getfield 35, 3) := by decide +kernel
theorem dX4_step_14 : decode cX4_step 14 = .ok (.invokevirtual 157, 3) := by decide +kernel
theorem dX4_step_17 : decode cX4_step 17 = .ok (.ifCond .eq 6, 3) := by decide +kernel
theorem dX4_step_20 : decode cX4_step 20 = .ok (.bipush (-2), 2) := by decide +kernel
theorem dX4_step_22 : decode cX4_step 22 = .ok (.ireturn, 1) := by decide +kernel
theorem dX4_step_23 : decode cX4_step 23 = .ok (.aload_n 0, 1) := by decide +kernel
theorem dX4_step_24 : decode cX4_step 24 = .ok (.iconst 0, 1) := by decide +kernel
theorem dX4_step_25 : decode cX4_step 25 = .ok (.iconst 0, 1) := by decide +kernel
theorem dX4_step_26 : decode cX4_step 26 = .ok (.invokevirtual 160, 3) := by decide +kernel
theorem dX4_step_29 : decode cX4_step 29 = .ok (.istore_n 1, 1) := by decide +kernel
theorem dX4_step_30 : decode cX4_step 30 = .ok (.aload_n 0, 1) := by decide +kernel
theorem dX4_step_31 : decode cX4_step 31 = .ok (.aload_n 0, 1) := by decide +kernel
theorem dX4_step_32 : decode cX4_step 32 = .ok (.getfield 28, 3) := by decide +kernel
theorem dX4_step_35 : decode cX4_step 35 = .ok (.getfield 163, 3) := by decide +kernel
theorem dX4_step_38 : decode cX4_step 38 = .ok (.putfield 53, 3) := by decide +kernel
theorem dX4_step_41 : decode cX4_step 41 = .ok (.iload_n 1, 1) := by decide +kernel
theorem dX4_step_42 : decode cX4_step 42 = .ok (.ireturn, 1) := by decide +kernel
theorem dX4_hatch_0 : decode cX4_hatch 0 = .ok (.iload_n 1, 1) := by decide +kernel
theorem dX4_hatch_1 : decode cX4_hatch 1 = .ok (.iconst 0, 1) := by decide +kernel
theorem dX4_hatch_2 : decode cX4_hatch 2 = .ok (.iconst 4, 1) := by decide +kernel
theorem dX4_hatch_3 : decode cX4_hatch 3 = .ok (.invokestatic 133, 3) := by decide +kernel
theorem dX4_hatch_6 : decode cX4_hatch 6 = .ok (.ifCond .ne 5, 3) := by decide +kernel
theorem dX4_hatch_9 : decode cX4_hatch 9 = .ok (.iconst (-1), 1) := by decide +kernel
theorem dX4_hatch_10 : decode cX4_hatch 10 = .ok (.ireturn, 1) := by decide +kernel
theorem dX4_hatch_11 : decode cX4_hatch 11 = .ok (.aload_n 0, 1) := by decide +kernel
theorem dX4_hatch_12 : decode cX4_hatch 12 = .ok (.invokevirtual 154, 3) := by decide +kernel
theorem dX4_hatch_15 : decode cX4_hatch 15 = .ok (.ifCond .ne 14, 3) := by decide +kernel
theorem dX4_hatch_18 : decode cX4_hatch 18 = .ok (.aload_n 0, 1) := by decide +kernel
theorem dX4_hatch_19 : decode cX4_hatch 19 = .ok (.getfield 28, 3) := by decide +kernel
theorem dX4_hatch_22 : decode cX4_hatch 22 = .ok (.getfield 166, 3) := by decide +kernel
theorem dX4_hatch_25 : decode cX4_hatch 25 = .ok (.iload_n 1, 1) := by decide +kernel
theorem dX4_hatch_26 : decode cX4_hatch 26 = .ok (.if_icmp .ne 6, 3) := by decide +kernel
theorem dX4_hatch_29 : decode cX4_hatch 29 = .ok (.bipush (-4), 2) := by decide +kernel
theorem dX4_hatch_31 : decode cX4_hatch 31 = .ok (.ireturn, 1) := by decide +kernel
theorem dX4_hatch_32 : decode cX4_hatch 32 = .ok (.aload_n 0, 1) := by decide +kernel
theorem dX4_hatch_33 : decode cX4_hatch 33 = .ok (.getfield 35, 3) := by decide +kernel
theorem dX4_hatch_36 : decode cX4_hatch 36 = .ok (.invokevirtual 157, 3) := by decide +kernel
theorem dX4_hatch_39 : decode cX4_hatch 39 = .ok (.ifCond .eq 8, 3) := by decide +kernel
theorem dX4_hatch_42 : decode cX4_hatch 42 = .ok (.bipush (-2), 2) := by decide +kernel
theorem dX4_hatch_44 : decode cX4_hatch 44 = .ok (.goto 9, 3) := by decide +kernel
theorem dX4_hatch_47 : decode cX4_hatch 47 = .ok (.aload_n 0, 1) := by decide +kernel
theorem dX4_hatch_48 : decode cX4_hatch 48 = .ok (.iconst 2, 1) := by decide +kernel
theorem dX4_hatch_49 : decode cX4_hatch 49 = .ok (.iload_n 1, 1) := by decide +kernel
theorem dX4_hatch_50 : decode cX4_hatch 50 = .ok (.invokevirtual 160, 3) := by decide +kernel
theorem dX4_hatch_53 : decode cX4_hatch 53 = .ok (.ireturn, 1) := by decide +kernel
theorem dX4_rake_0 : decode cX4_rake 0 = .ok (.aload_n 0, 1) := by decide +kernel
theorem dX4_rake_1 : decode cX4_rake 1 = .ok (.invokevirtual 154, 3) := by decide +kernel
theorem dX4_rake_4 : decode cX4_rake 4 = .ok (.ifCond .ne 13, 3) := by decide +kernel
theorem dX4_rake_7 : decode cX4_rake 7 = .ok (.aload_n 0, 1) := by decide +kernel
theorem dX4_rake_8 : decode cX4_rake 8 = .ok (.getfield 28, 3) := by decide +kernel
theorem dX4_rake_11 : decode cX4_rake 11 = .ok (.getfield 169, 3) := by decide +kernel
theorem dX4_rake_14 : decode cX4_rake 14 = .ok (.ifCond .ne 6, 3) := by decide +kernel
theorem dX4_rake_17 : decode cX4_rake 17 = .ok (.bipush (-4), 2) := by decide +kernel
theorem dX4_rake_19 : decode cX4_rake 19 = .ok (.ireturn, 1) := by decide +kernel
theorem dX4_rake_20 : decode cX4_rake 20 = .ok (.aload_n 0, 1) := by decide +kernel
theorem dX4_rake_21 : decode cX4_rake 21 = .ok (.getfield 35, 3) := by decide +kernel
theorem dX4_rake_24 : decode cX4_rake 24 = .ok (.invokevirtual 157, 3) := by decide +kernel
theorem dX4_rake_27 : decode cX4_rake 27 = .ok (.ifCond .eq 8, 3) := by decide +kernel
theorem dX4_rake_30 : decode cX4_rake 30 = .ok (.bipush (-2), 2) := by decide +kernel
theorem dX4_rake_32 : decode cX4_rake 32 = .ok (.goto 9, 3) := by decide +kernel
theorem dX4_rake_35 : decode cX4_rake 35 = .ok (.aload_n 0, 1) := by decide +kernel
theorem dX4_rake_36 : decode cX4_rake 36 = .ok (.iconst 1, 1) := by decide +kernel
theorem dX4_rake_37 : decode cX4_rake 37 = .ok (.iconst 0, 1) := by decide +kernel
theorem dX4_rake_38 : decode cX4_rake 38 = .ok (.invokevirtual 160, 3) := by decide +kernel
theorem dX4_rake_41 : decode cX4_rake 41 = .ok (.ireturn, 1) := by decide +kernel
theorem dX4_fish_0 : decode cX4_fish 0 = .ok (.aload_n 0, 1) := by decide +kernel
theorem dX4_fish_1 : decode cX4_fish 1 = .ok (.iload_n 1, 1) := by decide +kernel
theorem dX4_fish_2 : decode cX4_fish 2 = .ok (.invokevirtual 130, 3) := by decide +kernel
theorem dX4_fish_5 : decode cX4_fish 5 = .ok (.ifCond .ne 5, 3) := by decide +kernel
theorem dX4_fish_8 : decode cX4_fish 8 = .ok (.iconst (-1), 1) := by decide +kernel
theorem dX4_fish_9 : decode cX4_fish 9 = .ok (.ireturn, 1) := by decide +kernel
theorem dX4_fish_10 : decode cX4_fish 10 = .ok (.aload_n 0, 1) := by decide +kernel
theorem dX4_fish_11 : decode cX4_fish 11 = .ok (.getfield 21, 3) := by decide +kernel
theorem dX4_fish_14 : decode cX4_fish 14 = .ok (.iload_n 1, 1) := by decide +kernel
theorem dX4_fish_15 : decode cX4_fish 15 = .ok (.invokevirtual 172, 3) := by decide +kernel
theorem dX4_fish_18 : decode cX4_fish 18 = .ok (.ifCond .eq 6, 3) := by decide +kernel
theorem dX4_fish_21 : decode cX4_fish 21 = .ok (.bipush (-4), 2) := by decide +kernel
theorem dX4_fish_23 : decode cX4_fish 23 = .ok (.ireturn, 1) := by decide +kernel
theorem dX4_fish_24 : decode cX4_fish 24 = .ok (.aload_n 0, 1) := by decide +kernel
theorem dX4_fish_25 : decode cX4_fish 25 = .ok (.getfield 35, 3) := by decide +kernel
theorem dX4_fish_28 : decode cX4_fish 28 = .ok (.invokevirtual 157, 3) := by decide +kernel
theorem dX4_fish_31 : decode cX4_fish 31 = .ok (.ifCond .eq 8, 3) := by decide +kernel
theorem dX4_fish_34 : decode cX4_fish 34 = .ok (.bipush (-2), 2) := by decide +kernel
theorem dX4_fish_36 : decode cX4_fish 36 = .ok (.goto 9, 3) := by decide +kernel
theorem dX4_fish_39 : decode cX4_fish 39 = .ok (.aload_n 0, 1) := by decide +kernel
theorem dX4_fish_40 : decode cX4_fish 40 = .ok (.iconst 3, 1) := by decide +kernel
theorem dX4_fish_41 : decode cX4_fish 41 = .ok (.iload_n 1, 1) := by decide +kernel
theorem dX4_fish_42 : decode cX4_fish 42 = .ok (.invokevirtual 160, 3) := by decide +kernel
theorem dX4_fish_45 : decode cX4_fish 45 = .ok (.ireturn, 1) := by decide +kernel
theorem dX4_undo_0 : decode cX4_undo 0 = .ok (.iload_n 1, 1) := by decide +kernel
theorem dX4_undo_1 : decode cX4_undo 1 = .ok (.iconst 0, 1) := by decide +kernel
theorem dX4_undo_2 : decode cX4_undo 2 = .ok (.aload_n 0, 1) := by decide +kernel
theorem dX4_undo_3 : decode cX4_undo 3 = .ok (.getfield 35, 3) := by decide +kernel
theorem dX4_undo_6 : decode cX4_undo 6 = .ok (.getfield 72, 3) := by decide +kernel
theorem dX4_undo_9 : decode cX4_undo 9 = .ok (.invokestatic 133, 3) := by decide +kernel
theorem dX4_undo_12 : decode cX4_undo 12 = .ok (.ifCond .ne 5, 3) := by decide +kernel
theorem dX4_undo_15 : decode cX4_undo 15 = .ok (.iconst (-1), 1) := by decide +kernel
theorem dX4_undo_16 : decode cX4_undo 16 = .ok (.ireturn, 1) := by decide +kernel
theorem dX4_undo_17 : decode cX4_undo 17 = .ok (.aload_n 0, 1) := by decide +kernel
theorem dX4_undo_18 : decode cX4_undo 18 = .ok (.getfield 35, 3) := by decide +kernel
theorem dX4_undo_21 : decode cX4_undo 21 = .ok (.getfield 72, 3) := by decide +kernel
theorem dX4_undo_24 : decode cX4_undo 24 = .ok (.iload_n 1, 1) := by decide +kernel
theorem dX4_undo_25 : decode cX4_undo 25 = .ok (.isub, 1) := by decide +kernel
theorem dX4_undo_26 : decode cX4_undo 26 = .ok (.istore_n 2, 1) := by decide +kernel
theorem dX4_undo_27 : decode cX4_undo 27 = .ok (.iload_n 2, 1) := by decide +kernel
theorem dX4_undo_28 : decode cX4_undo 28 = .ok (.ifCond .le 15, 3) := by decide +kernel
theorem dX4_undo_31 : decode cX4_undo 31 = .ok (.aload_n 0, 1) := by decide +kernel
theorem dX4_undo_32 : decode cX4_undo 32 = .ok (.getfield 35, 3) := by decide +kernel
theorem dX4_undo_35 : decode cX4_undo 35 = .ok (.iload_n 1, 1) := by decide +kernel
theorem dX4_undo_36 : decode cX4_undo 36 = .ok (.putfield 72, 3) := by decide +kernel
theorem dX4_undo_39 : decode cX4_undo 39 = .ok (.aload_n 0, 1) := by decide +kernel
theorem dX4_undo_40 : decode cX4_undo 40 = .ok (.invokevirtual 126, 3) := by decide +kernel
theorem dX4_undo_43 : decode cX4_undo 43 = .ok (.iload_n 2, 1) := by decide +kernel
theorem dX4_undo_44 : decode cX4_undo 44 = .ok (.ireturn, 1) := by decide +kernel
theorem dX4_keep_0 : decode cX4_keep 0 = .ok (.iload_n 1, 1) := by decide +kernel
theorem dX4_keep_1 : decode cX4_keep 1 = .ok (.invokestatic 175, 3) := by decide +kernel
theorem dX4_keep_4 : decode cX4_keep 4 = .ok (.ifCond .ne 5, 3) := by decide +kernel
theorem dX4_keep_7 : decode cX4_keep 7 = .ok (.iconst (-1), 1) := by decide +kernel
theorem dX4_keep_8 : decode cX4_keep 8 = .ok (.ireturn, 1) := by decide +kernel
theorem dX4_keep_9 : decode cX4_keep 9 = .ok (.aload_n 0, 1) := by decide +kernel
theorem dX4_keep_10 : decode cX4_keep 10 = .ok (.invokevirtual 154, 3) := by decide +kernel
theorem dX4_keep_13 : decode cX4_keep 13 = .ok (.ifCond .eq 6, 3) := by decide +kernel
theorem dX4_keep_16 : decode cX4_keep 16 = .ok (.bipush (-4), 2) := by decide +kernel
theorem dX4_keep_18 : decode cX4_keep 18 = .ok (.ireturn, 1) := by decide +kernel
theorem dX4_keep_19 : decode cX4_keep 19 = .ok (.aload_n 0, 1) := by decide +kernel
theorem dX4_keep_20 : decode cX4_keep 20 = .ok (.getfield 39, 3) := by decide +kernel
theorem dX4_keep_23 : decode cX4_keep 23 = .ok (.iload_n 1, 1) := by decide +kernel
theorem dX4_keep_24 : decode cX4_keep 24 = .ok (.aaload, 1) := by decide +kernel
theorem dX4_keep_25 : decode cX4_keep 25 = .ok (.aload_n 0, 1) := by decide +kernel
theorem dX4_keep_26 : decode cX4_keep 26 = .ok (.getfield 35, 3) := by decide +kernel
theorem dX4_keep_29 : decode cX4_keep 29 = .ok (.invokevirtual 178, 3) := by decide +kernel
theorem dX4_keep_32 : decode cX4_keep 32 = .ok (.aload_n 0, 1) := by decide +kernel
theorem dX4_keep_33 : decode cX4_keep 33 = .ok (.getfield 35, 3) := by decide +kernel
theorem dX4_keep_36 : decode cX4_keep 36 = .ok (.getfield 72, 3) := by decide +kernel
theorem dX4_keep_39 : decode cX4_keep 39 = .ok (.ireturn, 1) := by decide +kernel
theorem dX4_on_0 : decode cX4_on 0 = .ok (.iload_n 1, 1) := by decide +kernel
theorem dX4_on_1 : decode cX4_on 1 = .ok (.invokestatic 175, 3) := by decide +kernel
theorem dX4_on_4 : decode cX4_on 4 = .ok (.ifCond .ne 5, 3) := by decide +kernel
theorem dX4_on_7 : decode cX4_on 7 = .ok (.iconst (-1), 1) := by decide +kernel
theorem dX4_on_8 : decode cX4_on 8 = .ok (.ireturn, 1) := by decide +kernel
theorem dX4_on_9 : decode cX4_on 9 = .ok (.aload_n 0, 1) := by decide +kernel
theorem dX4_on_10 : decode cX4_on 10 = .ok (.getfield 39, 3) := by decide +kernel
theorem dX4_on_13 : decode cX4_on 13 = .ok (.iload_n 1, 1) := by decide +kernel
theorem dX4_on_14 : decode cX4_on 14 = .ok (.aaload, 1) := by decide +kernel
theorem dX4_on_15 : decode cX4_on 15 = .ok (.getfield 72, 3) := by decide +kernel
theorem dX4_on_18 : decode cX4_on 18 = .ok (.ifCond .ge 9, 3) := by decide +kernel
theorem dX4_on_21 : decode cX4_on 21 = .ok (.aload_n 0, 1) := by decide +kernel
theorem dX4_on_22 : decode cX4_on 22 = .ok (.iconst 1, 1) := by decide +kernel
theorem dX4_on_23 : decode cX4_on 23 = .ok (.invokevirtual 79, 3) := by decide +kernel
theorem dX4_on_26 : decode cX4_on 26 = .ok (.ireturn, 1) := by decide +kernel
theorem dX4_on_27 : decode cX4_on 27 = .ok (.aload_n 0, 1) := by decide +kernel
theorem dX4_on_28 : decode cX4_on 28 = .ok (.getfield 35, 3) := by decide +kernel
theorem dX4_on_31 : decode cX4_on 31 = .ok (.aload_n 0, 1) := by decide +kernel
theorem dX4_on_32 : decode cX4_on 32 = .ok (.getfield 39, 3) := by decide +kernel
theorem dX4_on_35 : decode cX4_on 35 = .ok (.iload_n 1, 1) := by decide +kernel
theorem dX4_on_36 : decode cX4_on 36 = .ok (.aaload, 1) := by decide +kernel
theorem dX4_on_37 : decode cX4_on 37 = .ok (.invokevirtual 178, 3) := by decide +kernel
theorem dX4_on_40 : decode cX4_on 40 = .ok (.aload_n 0, 1) := by decide +kernel
theorem dX4_on_41 : decode cX4_on 41 = .ok (.invokevirtual 126, 3) := by decide +kernel
theorem dX4_on_44 : decode cX4_on 44 = .ok (.aload_n 0, 1) := by decide +kernel
theorem dX4_on_45 : decode cX4_on 45 = .ok (.getfield 35, 3) := by decide +kernel
theorem dX4_on_48 : decode cX4_on 48 = .ok (.getfield 72, 3) := by decide +kernel
theorem dX4_on_51 : decode cX4_on 51 = .ok (.ireturn, 1) := by decide +kernel
theorem dX4_mill_0 : decode cX4_mill 0 = .ok (.iload_n 1, 1) := by decide +kernel
theorem dX4_mill_1 : decode cX4_mill 1 = .ok (.iconst 0, 1) := by decide +kernel
theorem dX4_mill_2 : decode cX4_mill 2 = .ok (.bipush 60, 2) := by decide +kernel
theorem dX4_mill_4 : decode cX4_mill 4 = .ok (.invokestatic 133, 3) := by decide +kernel
theorem dX4_mill_7 : decode cX4_mill 7 = .ok (.ifCond .ne 5, 3) := by decide +kernel
theorem dX4_mill_10 : decode cX4_mill 10 = .ok (.iconst (-1), 1) := by decide +kernel
theorem dX4_mill_11 : decode cX4_mill 11 = .ok (.ireturn, 1) := by decide +kernel
theorem dX4_mill_12 : decode cX4_mill 12 = .ok (.aload_n 0, 1) := by decide +kernel
theorem dX4_mill_13 : decode cX4_mill 13 = .ok (.invokevirtual 154, 3) := by decide +kernel
theorem dX4_mill_16 : decode cX4_mill 16 = .ok (.ifCond .eq 6, 3) := by decide +kernel
theorem dX4_mill_19 : decode cX4_mill 19 = .ok (.bipush (-4), 2) := by decide +kernel
theorem dX4_mill_21 : decode cX4_mill 21 = .ok (.ireturn, 1) := by decide +kernel
theorem dX4_mill_22 : decode cX4_mill 22 = .ok (.aload_n 0, 1) := by decide +kernel
theorem dX4_mill_23 : decode cX4_mill 23 = .ok (.invokevirtual 182, 3) := by decide +kernel
theorem dX4_mill_26 : decode cX4_mill 26 = .ok (.aload_n 0, 1) := by decide +kernel
theorem dX4_mill_27 : decode cX4_mill 27 = .ok (.iload_n 1, 1) := by decide +kernel
theorem dX4_mill_28 : decode cX4_mill 28 = .ok (.aload_n 0, 1) := by decide +kernel
theorem dX4_mill_29 : decode cX4_mill 29 = .ok (.getfield 21, 3) := by decide +kernel
theorem dX4_mill_32 : decode cX4_mill 32 = .ok (.invokevirtual 185, 3) := by decide +kernel
theorem dX4_mill_35 : decode cX4_mill 35 = .ok (.istore_n 2, 1) := by decide +kernel
theorem dX4_mill_36 : decode cX4_mill 36 = .ok (.aload_n 0, 1) := by decide +kernel
theorem dX4_mill_37 : decode cX4_mill 37 = .ok (.aload_n 0, 1) := by decide +kernel
theorem dX4_mill_38 : decode cX4_mill 38 = .ok (.getfield 46, 3) := by decide +kernel
theorem dX4_mill_41 : decode cX4_mill 41 = .ok (.getfield 163, 3) := by decide +kernel
theorem dX4_mill_44 : decode cX4_mill 44 = .ok (.putfield 53, 3) := by decide +kernel
theorem dX4_mill_47 : decode cX4_mill 47 = .ok (.iload_n 2, 1) := by decide +kernel
theorem dX4_mill_48 : decode cX4_mill 48 = .ok (.ireturn, 1) := by decide +kernel
theorem dX4_turns_0 : decode cX4_turns 0 = .ok (.aload_n 0, 1) := by decide +kernel
theorem dX4_turns_1 : decode cX4_turns 1 = .ok (.invokevirtual 154, 3) := by decide +kernel
theorem dX4_turns_4 : decode cX4_turns 4 = .ok (.ifCond .eq 6, 3) := by decide +kernel
theorem dX4_turns_7 : decode cX4_turns 7 = .ok (.bipush (-4), 2) := by decide +kernel
theorem dX4_turns_9 : decode cX4_turns 9 = .ok (.ireturn, 1) := by decide +kernel
theorem dX4_turns_10 : decode cX4_turns 10 = .ok (.aload_n 0, 1) := by decide +kernel
theorem dX4_turns_11 : decode cX4_turns 11 = .ok (.invokevirtual 182, 3) := by decide +kernel
theorem dX4_turns_14 : decode cX4_turns 14 = .ok (.iconst 1, 1) := by decide +kernel
theorem dX4_turns_15 : decode cX4_turns 15 = .ok (.istore_n 1, 1) := by decide +kernel
theorem dX4_turns_16 : decode cX4_turns 16 = .ok (.iload_n 1, 1) := by decide +kernel
theorem dX4_turns_17 : decode cX4_turns 17 = .ok (.bipush 60, 2) := by decide +kernel
theorem dX4_turns_19 : decode cX4_turns 19 = .ok (.if_icmp .gt 38, 3) := by decide +kernel
theorem dX4_turns_22 : decode cX4_turns 22 = .ok (.aload_n 0, 1) := by decide +kernel
theorem dX4_turns_23 : decode cX4_turns 23 = .ok (.getfield 46, 3) := by decide +kernel
theorem dX4_turns_26 : decode cX4_turns 26 = .ok (.getfield 163, 3) := by decide +kernel
theorem dX4_turns_29 : decode cX4_turns 29 = .ok (.istore_n 2, 1) := by decide +kernel
theorem dX4_turns_30 : decode cX4_turns 30 = .ok (.aload_n 0, 1) := by decide +kernel
theorem dX4_turns_31 : decode cX4_turns 31 = .ok (.getfield 46, 3) := by decide +kernel
theorem dX4_turns_34 : decode cX4_turns 34 = .ok (.aload_n 0, 1) := by decide +kernel
theorem dX4_turns_35 : decode cX4_turns 35 = .ok (.getfield 21, 3) := by decide +kernel
theorem dX4_turns_38 : decode cX4_turns 38 = .ok (.invokevirtual 189, 3) := by decide +kernel
theorem dX4_turns_41 : decode cX4_turns 41 = .ok (.ifCond .ne 10, 3) := by decide +kernel
theorem dX4_turns_44 : decode cX4_turns 44 = .ok (.aload_n 0, 1) := by decide +kernel
theorem dX4_turns_45 : decode cX4_turns 45 = .ok (.iload_n 2, 1) := by decide +kernel
theorem dX4_turns_46 : decode cX4_turns 46 = .ok (.putfield 53, 3) := by decide +kernel
theorem dX4_turns_49 : decode cX4_turns 49 = .ok (.iload_n 1, 1) := by decide +kernel
theorem dX4_turns_50 : decode cX4_turns 50 = .ok (.ireturn, 1) := by decide +kernel
theorem dX4_turns_51 : decode cX4_turns 51 = .ok (.iinc 1 1, 3) := by decide +kernel
theorem dX4_turns_54 : decode cX4_turns 54 = .ok (.goto (-38), 3) := by decide +kernel
theorem dX4_turns_57 : decode cX4_turns 57 = .ok (.bipush (-9), 2) := by decide +kernel
theorem dX4_turns_59 : decode cX4_turns 59 = .ok (.ireturn, 1) := by decide +kernel
theorem dX4_book_0 : decode cX4_book 0 = .ok (.iload_n 1, 1) := by decide +kernel
theorem dX4_book_1 : decode cX4_book 1 = .ok (.iconst 1, 1) := by decide +kernel
theorem dX4_book_2 : decode cX4_book 2 = .ok (.bipush 20, 2) := by decide +kernel
theorem dX4_book_4 : decode cX4_book 4 = .ok (.invokestatic 133, 3) := by decide +kernel
theorem dX4_book_7 : decode cX4_book 7 = .ok (.ifCond .eq 10, 3) := by decide +kernel
theorem dX4_book_10 : decode cX4_book 10 = .ok (.iload_n 2, 1) := by decide +kernel
theorem dX4_book_11 : decode cX4_book 11 = .ok (.invokestatic 75, 3) := by decide +kernel
theorem dX4_book_14 : decode cX4_book 14 = .ok (.ifCond .ne 5, 3) := by decide +kernel
theorem dX4_book_17 : decode cX4_book 17 = .ok (.iconst (-1), 1) := by decide +kernel
theorem dX4_book_18 : decode cX4_book 18 = .ok (.ireturn, 1) := by decide +kernel
theorem dX4_book_19 : decode cX4_book 19 = .ok (.aload_n 0, 1) := by decide +kernel
theorem dX4_book_20 : decode cX4_book 20 = .ok (.invokevirtual 154, 3) := by decide +kernel
theorem dX4_book_23 : decode cX4_book 23 = .ok (.ifCond .eq 6, 3) := by decide +kernel
theorem dX4_book_26 : decode cX4_book 26 = .ok (.bipush (-4), 2) := by decide +kernel
theorem dX4_book_28 : decode cX4_book 28 = .ok (.ireturn, 1) := by decide +kernel
theorem dX4_book_29 : decode cX4_book 29 = .ok (.aload_n 0, 1) := by decide +kernel
theorem dX4_book_30 : decode cX4_book 30 = .ok (.getfield 11, 3) := by decide +kernel
theorem dX4_book_33 : decode cX4_book 33 = .ok (.iload_n 2, 1) := by decide +kernel
theorem dX4_book_34 : decode cX4_book 34 = .ok (.aaload, 1) := by decide +kernel
theorem dX4_book_35 : decode cX4_book 35 = .ok (.iload_n 1, 1) := by decide +kernel
theorem dX4_book_36 : decode cX4_book 36 = .ok (.iconst 0, 1) := by decide +kernel
theorem dX4_book_37 : decode cX4_book 37 = .ok (.invokevirtual 83, 3) := by decide +kernel
theorem dX4_book_40 : decode cX4_book 40 = .ok (.aload_n 0, 1) := by decide +kernel
theorem dX4_book_41 : decode cX4_book 41 = .ok (.invokevirtual 182, 3) := by decide +kernel
theorem dX4_book_44 : decode cX4_book 44 = .ok (.iconst 0, 1) := by decide +kernel
theorem dX4_book_45 : decode cX4_book 45 = .ok (.istore_n 3, 1) := by decide +kernel
theorem dX4_book_46 : decode cX4_book 46 = .ok (.iconst 0, 1) := by decide +kernel
theorem dX4_book_47 : decode cX4_book 47 = .ok (.istore 4, 2) := by decide +kernel
theorem dX4_book_49 : decode cX4_book 49 = .ok (.iload 4, 2) := by decide +kernel
theorem dX4_book_51 : decode cX4_book 51 = .ok (.iload_n 1, 1) := by decide +kernel
theorem dX4_book_52 : decode cX4_book 52 = .ok (.if_icmp .ge 44, 3) := by decide +kernel
theorem dX4_book_55 : decode cX4_book 55 = .ok (.aload_n 0, 1) := by decide +kernel
theorem dX4_book_56 : decode cX4_book 56 = .ok (.getfield 46, 3) := by decide +kernel
theorem dX4_book_59 : decode cX4_book 59 = .ok (.aload_n 0, 1) := by decide +kernel
theorem dX4_book_60 : decode cX4_book 60 = .ok (.getfield 21, 3) := by decide +kernel
theorem dX4_book_63 : decode cX4_book 63 = .ok (.invokevirtual 189, 3) := by decide +kernel
theorem dX4_book_66 : decode cX4_book 66 = .ok (.istore 5, 2) := by decide +kernel
theorem dX4_book_68 : decode cX4_book 68 = .ok (.aload_n 0, 1) := by decide +kernel
theorem dX4_book_69 : decode cX4_book 69 = .ok (.getfield 11, 3) := by decide +kernel
theorem dX4_book_72 : decode cX4_book 72 = .ok (.iload_n 2, 1) := by decide +kernel
theorem dX4_book_73 : decode cX4_book 73 = .ok (.aaload, 1) := by decide +kernel
theorem dX4_book_74 : decode cX4_book 74 = .ok (.getfield 91, 3) := by decide +kernel
theorem dX4_book_77 : decode cX4_book 77 = .ok (.iload 4, 2) := by decide +kernel
theorem dX4_book_79 : decode cX4_book 79 = .ok (.iload 5, 2) := by decide +kernel
theorem dX4_book_81 : decode cX4_book 81 = .ok (.iastore, 1) := by decide +kernel
theorem dX4_book_82 : decode cX4_book 82 = .ok (.iload 5, 2) := by decide +kernel
theorem dX4_book_84 : decode cX4_book 84 = .ok (.ifCond .ne 6, 3) := by decide +kernel
theorem dX4_book_87 : decode cX4_book 87 = .ok (.iinc 3 1, 3) := by decide +kernel
theorem dX4_book_90 : decode cX4_book 90 = .ok (.iinc 4 1, 3) := by decide +kernel
theorem dX4_book_93 : decode cX4_book 93 = .ok (.goto (-44), 3) := by decide +kernel
theorem dX4_book_96 : decode cX4_book 96 = .ok (.iload_n 3, 1) := by decide +kernel
theorem dX4_book_97 : decode cX4_book 97 = .ok (.ireturn, 1) := by decide +kernel
theorem dX4_best_0 : decode cX4_best 0 = .ok (.iload_n 1, 1) := by decide +kernel
theorem dX4_best_1 : decode cX4_best 1 = .ok (.iconst 1, 1) := by decide +kernel
theorem dX4_best_2 : decode cX4_best 2 = .ok (.bipush 20, 2) := by decide +kernel
theorem dX4_best_4 : decode cX4_best 4 = .ok (.invokestatic 133, 3) := by decide +kernel
theorem dX4_best_7 : decode cX4_best 7 = .ok (.ifCond .ne 5, 3) := by decide +kernel
theorem dX4_best_10 : decode cX4_best 10 = .ok (.iconst (-1), 1) := by decide +kernel
theorem dX4_best_11 : decode cX4_best 11 = .ok (.ireturn, 1) := by decide +kernel
theorem dX4_best_12 : decode cX4_best 12 = .ok (.aload_n 0, 1) := by decide +kernel
theorem dX4_best_13 : decode cX4_best 13 = .ok (.invokevirtual 154, 3) := by decide +kernel
theorem dX4_best_16 : decode cX4_best 16 = .ok (.ifCond .eq 6, 3) := by decide +kernel
theorem dX4_best_19 : decode cX4_best 19 = .ok (.bipush (-4), 2) := by decide +kernel
theorem dX4_best_21 : decode cX4_best 21 = .ok (.ireturn, 1) := by decide +kernel
theorem dX4_best_22 : decode cX4_best 22 = .ok (.iconst 0, 1) := by decide +kernel
theorem dX4_best_23 : decode cX4_best 23 = .ok (.istore_n 2, 1) := by decide +kernel
theorem dX4_best_24 : decode cX4_best 24 = .ok (.iconst (-1), 1) := by decide +kernel
theorem dX4_best_25 : decode cX4_best 25 = .ok (.istore_n 3, 1) := by decide +kernel
theorem dX4_best_26 : decode cX4_best 26 = .ok (.iconst 0, 1) := by decide +kernel
theorem dX4_best_27 : decode cX4_best 27 = .ok (.istore 4, 2) := by decide +kernel
theorem dX4_best_29 : decode cX4_best 29 = .ok (.iload 4, 2) := by decide +kernel
theorem dX4_best_31 : decode cX4_best 31 = .ok (.iconst 4, 1) := by decide +kernel
theorem dX4_best_32 : decode cX4_best 32 = .ok (.if_icmp .gt 45, 3) := by decide +kernel
theorem dX4_best_35 : decode cX4_best 35 = .ok (.aload_n 0, 1) := by decide +kernel
theorem dX4_best_36 : decode cX4_best 36 = .ok (.invokevirtual 182, 3) := by decide +kernel
theorem dX4_best_39 : decode cX4_best 39 = .ok (.aload_n 0, 1) := by decide +kernel
theorem dX4_best_40 : decode cX4_best 40 = .ok (.getfield 46, 3) := by decide +kernel
theorem dX4_best_43 : decode cX4_best 43 = .ok (.iload 4, 2) := by decide +kernel
theorem dX4_best_45 : decode cX4_best 45 = .ok (.putfield 166, 3) := by decide +kernel
theorem dX4_best_48 : decode cX4_best 48 = .ok (.aload_n 0, 1) := by decide +kernel
theorem dX4_best_49 : decode cX4_best 49 = .ok (.iload_n 1, 1) := by decide +kernel
theorem dX4_best_50 : decode cX4_best 50 = .ok (.aload_n 0, 1) := by decide +kernel
theorem dX4_best_51 : decode cX4_best 51 = .ok (.getfield 21, 3) := by decide +kernel
theorem dX4_best_54 : decode cX4_best 54 = .ok (.invokevirtual 185, 3) := by decide +kernel
theorem dX4_best_57 : decode cX4_best 57 = .ok (.istore 5, 2) := by decide +kernel
theorem dX4_best_59 : decode cX4_best 59 = .ok (.iload 5, 2) := by decide +kernel
theorem dX4_best_61 : decode cX4_best 61 = .ok (.iload_n 3, 1) := by decide +kernel
theorem dX4_best_62 : decode cX4_best 62 = .ok (.if_icmp .le 9, 3) := by decide +kernel
theorem dX4_best_65 : decode cX4_best 65 = .ok (.iload 5, 2) := by decide +kernel
theorem dX4_best_67 : decode cX4_best 67 = .ok (.istore_n 3, 1) := by decide +kernel
theorem dX4_best_68 : decode cX4_best 68 = .ok (.iload 4, 2) := by decide +kernel
theorem dX4_best_70 : decode cX4_best 70 = .ok (.istore_n 2, 1) := by decide +kernel
theorem dX4_best_71 : decode cX4_best 71 = .ok (.iinc 4 1, 3) := by decide +kernel
theorem dX4_best_74 : decode cX4_best 74 = .ok (.goto (-45), 3) := by decide +kernel
theorem dX4_best_77 : decode cX4_best 77 = .ok (.aload_n 0, 1) := by decide +kernel
theorem dX4_best_78 : decode cX4_best 78 = .ok (.iload_n 3, 1) := by decide +kernel
theorem dX4_best_79 : decode cX4_best 79 = .ok (.putfield 53, 3) := by decide +kernel
theorem dX4_best_82 : decode cX4_best 82 = .ok (.iload_n 2, 1) := by decide +kernel
theorem dX4_best_83 : decode cX4_best 83 = .ok (.ireturn, 1) := by decide +kernel
theorem dX4_plan_0 : decode cX4_plan 0 = .ok (.iload_n 1, 1) := by decide +kernel
theorem dX4_plan_1 : decode cX4_plan 1 = .ok (.iconst 1, 1) := by decide +kernel
theorem dX4_plan_2 : decode cX4_plan 2 = .ok (.iconst 5, 1) := by decide +kernel
theorem dX4_plan_3 : decode cX4_plan 3 = .ok (.invokestatic 133, 3) := by decide +kernel
theorem dX4_plan_6 : decode cX4_plan 6 = .ok (.ifCond .eq 10, 3) := by decide +kernel
theorem dX4_plan_9 : decode cX4_plan 9 = .ok (.iload_n 2, 1) := by decide +kernel
theorem dX4_plan_10 : decode cX4_plan 10 = .ok (.invokestatic 75, 3) := by decide +kernel
theorem dX4_plan_13 : decode cX4_plan 13 = .ok (.ifCond .ne 5, 3) := by decide +kernel
theorem dX4_plan_16 : decode cX4_plan 16 = .ok (.iconst (-1), 1) := by decide +kernel
theorem dX4_plan_17 : decode cX4_plan 17 = .ok (.ireturn, 1) := by decide +kernel
theorem dX4_plan_18 : decode cX4_plan 18 = .ok (.aload_n 0, 1) := by decide +kernel
theorem dX4_plan_19 : decode cX4_plan 19 = .ok (.invokevirtual 154, 3) := by decide +kernel
theorem dX4_plan_22 : decode cX4_plan 22 = .ok (.ifCond .eq 6, 3) := by decide +kernel
theorem dX4_plan_25 : decode cX4_plan 25 = .ok (.bipush (-4), 2) := by decide +kernel
theorem dX4_plan_27 : decode cX4_plan 27 = .ok (.ireturn, 1) := by decide +kernel
theorem dX4_plan_28 : decode cX4_plan 28 = .ok (.aload_n 0, 1) := by decide +kernel
theorem dX4_plan_29 : decode cX4_plan 29 = .ok (.getfield 11, 3) := by decide +kernel
theorem dX4_plan_32 : decode cX4_plan 32 = .ok (.iload_n 2, 1) := by decide +kernel
theorem dX4_plan_33 : decode cX4_plan 33 = .ok (.aaload, 1) := by decide +kernel
theorem dX4_plan_34 : decode cX4_plan 34 = .ok (.iload_n 1, 1) := by decide +kernel
theorem dX4_plan_35 : decode cX4_plan 35 = .ok (.iconst 0, 1) := by decide +kernel
theorem dX4_plan_36 : decode cX4_plan 36 = .ok (.invokevirtual 83, 3) := by decide +kernel
theorem dX4_plan_39 : decode cX4_plan 39 = .ok (.aload_n 0, 1) := by decide +kernel
theorem dX4_plan_40 : decode cX4_plan 40 = .ok (.invokevirtual 182, 3) := by decide +kernel
theorem dX4_plan_43 : decode cX4_plan 43 = .ok (.iconst 0, 1) := by decide +kernel
theorem dX4_plan_44 : decode cX4_plan 44 = .ok (.istore_n 3, 1) := by decide +kernel
theorem dX4_plan_45 : decode cX4_plan 45 = .ok (.iload_n 3, 1) := by decide +kernel
theorem dX4_plan_46 : decode cX4_plan 46 = .ok (.iload_n 1, 1) := by decide +kernel
theorem dX4_plan_47 : decode cX4_plan 47 = .ok (.if_icmp .ge 54, 3) := by decide +kernel
theorem dX4_plan_50 : decode cX4_plan 50 = .ok (.aload_n 0, 1) := by decide +kernel
theorem dX4_plan_51 : decode cX4_plan 51 = .ok (.iload_n 1, 1) := by decide +kernel
theorem dX4_plan_52 : decode cX4_plan 52 = .ok (.iload_n 3, 1) := by decide +kernel
theorem dX4_plan_53 : decode cX4_plan 53 = .ok (.isub, 1) := by decide +kernel
theorem dX4_plan_54 : decode cX4_plan 54 = .ok (.iconst 1, 1) := by decide +kernel
theorem dX4_plan_55 : decode cX4_plan 55 = .ok (.isub, 1) := by decide +kernel
theorem dX4_plan_56 : decode cX4_plan 56 = .ok (.invokevirtual 193, 3) := by decide +kernel
theorem dX4_plan_59 : decode cX4_plan 59 = .ok (.istore 4, 2) := by decide +kernel
theorem dX4_plan_61 : decode cX4_plan 61 = .ok (.aload_n 0, 1) := by decide +kernel
theorem dX4_plan_62 : decode cX4_plan 62 = .ok (.getfield 11, 3) := by decide +kernel
theorem dX4_plan_65 : decode cX4_plan 65 = .ok (.iload_n 2, 1) := by decide +kernel
theorem dX4_plan_66 : decode cX4_plan 66 = .ok (.aaload, 1) := by decide +kernel
theorem dX4_plan_67 : decode cX4_plan 67 = .ok (.getfield 91, 3) := by decide +kernel
theorem dX4_plan_70 : decode cX4_plan 70 = .ok (.iload_n 3, 1) := by decide +kernel
theorem dX4_plan_71 : decode cX4_plan 71 = .ok (.iload 4, 2) := by decide +kernel
theorem dX4_plan_73 : decode cX4_plan 73 = .ok (.iastore, 1) := by decide +kernel
theorem dX4_plan_74 : decode cX4_plan 74 = .ok (.aload_n 0, 1) := by decide +kernel
theorem dX4_plan_75 : decode cX4_plan 75 = .ok (.getfield 46, 3) := by decide +kernel
theorem dX4_plan_78 : decode cX4_plan 78 = .ok (.iload 4, 2) := by decide +kernel
theorem dX4_plan_80 : decode cX4_plan 80 = .ok (.putfield 166, 3) := by decide +kernel
theorem dX4_plan_83 : decode cX4_plan 83 = .ok (.aload_n 0, 1) := by decide +kernel
theorem dX4_plan_84 : decode cX4_plan 84 = .ok (.getfield 46, 3) := by decide +kernel
theorem dX4_plan_87 : decode cX4_plan 87 = .ok (.aload_n 0, 1) := by decide +kernel
theorem dX4_plan_88 : decode cX4_plan 88 = .ok (.getfield 21, 3) := by decide +kernel
theorem dX4_plan_91 : decode cX4_plan 91 = .ok (.invokevirtual 189, 3) := by decide +kernel
theorem dX4_plan_94 : decode cX4_plan 94 = .ok (.pop, 1) := by decide +kernel
theorem dX4_plan_95 : decode cX4_plan 95 = .ok (.iinc 3 1, 3) := by decide +kernel
theorem dX4_plan_98 : decode cX4_plan 98 = .ok (.goto (-53), 3) := by decide +kernel
theorem dX4_plan_101 : decode cX4_plan 101 = .ok (.aload_n 0, 1) := by decide +kernel
theorem dX4_plan_102 : decode cX4_plan 102 = .ok (.getfield 46, 3) := by decide +kernel
theorem dX4_plan_105 : decode cX4_plan 105 = .ok (.getfield 196, 3) := by decide +kernel
theorem dX4_plan_108 : decode cX4_plan 108 = .ok (.ireturn, 1) := by decide +kernel
theorem dX4_rakes_0 : decode cX4_rakes 0 = .ok (.iload_n 1, 1) := by decide +kernel
theorem dX4_rakes_1 : decode cX4_rakes 1 = .ok (.iconst 1, 1) := by decide +kernel
theorem dX4_rakes_2 : decode cX4_rakes 2 = .ok (.bipush 8, 2) := by decide +kernel
theorem dX4_rakes_4 : decode cX4_rakes 4 = .ok (.invokestatic 133, 3) := by decide +kernel
theorem dX4_rakes_7 : decode cX4_rakes 7 = .ok (.ifCond .eq 14, 3) := by decide +kernel
theorem dX4_rakes_10 : decode cX4_rakes 10 = .ok (.iload_n 2, 1) := by decide +kernel
theorem dX4_rakes_11 : decode cX4_rakes 11 = .ok (.iconst 0, 1) := by decide +kernel
theorem dX4_rakes_12 : decode cX4_rakes 12 = .ok (.sipush 400, 3) := by decide +kernel
theorem dX4_rakes_15 : decode cX4_rakes 15 = .ok (.invokestatic 133, 3) := by decide +kernel
theorem dX4_rakes_18 : decode cX4_rakes 18 = .ok (.ifCond .ne 5, 3) := by decide +kernel
theorem dX4_rakes_21 : decode cX4_rakes 21 = .ok (.iconst (-1), 1) := by decide +kernel
theorem dX4_rakes_22 : decode cX4_rakes 22 = .ok (.ireturn, 1) := by decide +kernel
theorem dX4_rakes_23 : decode cX4_rakes 23 = .ok (.aload_n 0, 1) := by decide +kernel
theorem dX4_rakes_24 : decode cX4_rakes 24 = .ok (.invokevirtual 154, 3) := by decide +kernel
theorem dX4_rakes_27 : decode cX4_rakes 27 = .ok (.ifCond .eq 6, 3) := by decide +kernel
theorem dX4_rakes_30 : decode cX4_rakes 30 = .ok (.bipush (-4), 2) := by decide +kernel
theorem dX4_rakes_32 : decode cX4_rakes 32 = .ok (.ireturn, 1) := by decide +kernel
theorem dX4_rakes_33 : decode cX4_rakes 33 = .ok (.iload_n 1, 1) := by decide +kernel
theorem dX4_rakes_34 : decode cX4_rakes 34 = .ok (.iconst 1, 1) := by decide +kernel
theorem dX4_rakes_35 : decode cX4_rakes 35 = .ok (.iadd, 1) := by decide +kernel
theorem dX4_rakes_36 : decode cX4_rakes 36 = .ok (.istore_n 3, 1) := by decide +kernel
theorem dX4_rakes_37 : decode cX4_rakes 37 = .ok (.iconst 0, 1) := by decide +kernel
theorem dX4_rakes_38 : decode cX4_rakes 38 = .ok (.istore 4, 2) := by decide +kernel
theorem dX4_rakes_40 : decode cX4_rakes 40 = .ok (.iconst 0, 1) := by decide +kernel
theorem dX4_rakes_41 : decode cX4_rakes 41 = .ok (.istore 5, 2) := by decide +kernel
theorem dX4_rakes_43 : decode cX4_rakes 43 = .ok (.iload 5, 2) := by decide +kernel
theorem dX4_rakes_45 : decode cX4_rakes 45 = .ok (.iconst 1, 1) := by decide +kernel
theorem dX4_rakes_46 : decode cX4_rakes 46 = .ok (.iload_n 1, 1) := by decide +kernel
theorem dX4_rakes_47 : decode cX4_rakes 47 = .ok (.ishl, 1) := by decide +kernel
theorem dX4_rakes_48 : decode cX4_rakes 48 = .ok (.if_icmp .ge 40, 3) := by decide +kernel
theorem dX4_rakes_51 : decode cX4_rakes 51 = .ok (.iload 5, 2) := by decide +kernel
theorem dX4_rakes_53 : decode cX4_rakes 53 = .ok (.invokestatic 199, 3) := by decide +kernel
theorem dX4_rakes_56 : decode cX4_rakes 56 = .ok (.istore 6, 2) := by decide +kernel
theorem dX4_rakes_58 : decode cX4_rakes 58 = .ok (.iload 6, 2) := by decide +kernel
theorem dX4_rakes_60 : decode cX4_rakes 60 = .ok (.iload_n 3, 1) := by decide +kernel
theorem dX4_rakes_61 : decode cX4_rakes 61 = .ok (.if_icmp .ge 21, 3) := by decide +kernel
theorem dX4_rakes_64 : decode cX4_rakes 64 = .ok (.aload_n 0, 1) := by decide +kernel
theorem dX4_rakes_65 : decode cX4_rakes 65 = .ok (.iload_n 1, 1) := by decide +kernel
theorem dX4_rakes_66 : decode cX4_rakes 66 = .ok (.iload 5, 2) := by decide +kernel
theorem dX4_rakes_68 : decode cX4_rakes 68 = .ok (.invokevirtual 204, 3) := by decide +kernel
theorem dX4_rakes_71 : decode cX4_rakes 71 = .ok (.iload_n 2, 1) := by decide +kernel
theorem dX4_rakes_72 : decode cX4_rakes 72 = .ok (.if_icmp .lt 10, 3) := by decide +kernel
theorem dX4_rakes_75 : decode cX4_rakes 75 = .ok (.iload 6, 2) := by decide +kernel
theorem dX4_rakes_77 : decode cX4_rakes 77 = .ok (.istore_n 3, 1) := by decide +kernel
theorem dX4_rakes_78 : decode cX4_rakes 78 = .ok (.iload 5, 2) := by decide +kernel
theorem dX4_rakes_80 : decode cX4_rakes 80 = .ok (.istore 4, 2) := by decide +kernel
theorem dX4_rakes_82 : decode cX4_rakes 82 = .ok (.iinc 5 1, 3) := by decide +kernel
theorem dX4_rakes_85 : decode cX4_rakes 85 = .ok (.goto (-42), 3) := by decide +kernel
theorem dX4_rakes_88 : decode cX4_rakes 88 = .ok (.iload_n 3, 1) := by decide +kernel
theorem dX4_rakes_89 : decode cX4_rakes 89 = .ok (.iload_n 1, 1) := by decide +kernel
theorem dX4_rakes_90 : decode cX4_rakes 90 = .ok (.if_icmp .le 6, 3) := by decide +kernel
theorem dX4_rakes_93 : decode cX4_rakes 93 = .ok (.bipush (-9), 2) := by decide +kernel
theorem dX4_rakes_95 : decode cX4_rakes 95 = .ok (.ireturn, 1) := by decide +kernel
theorem dX4_rakes_96 : decode cX4_rakes 96 = .ok (.aload_n 0, 1) := by decide +kernel
theorem dX4_rakes_97 : decode cX4_rakes 97 = .ok (.iload 4, 2) := by decide +kernel
theorem dX4_rakes_99 : decode cX4_rakes 99 = .ok (.putfield 53, 3) := by decide +kernel
theorem dX4_rakes_102 : decode cX4_rakes 102 = .ok (.iload_n 3, 1) := by decide +kernel
theorem dX4_rakes_103 : decode cX4_rakes 103 = .ok (.ireturn, 1) := by decide +kernel
theorem dX4_fishes_0 : decode cX4_fishes 0 = .ok (.iload_n 1, 1) := by decide +kernel
theorem dX4_fishes_1 : decode cX4_fishes 1 = .ok (.iconst 1, 1) := by decide +kernel
theorem dX4_fishes_2 : decode cX4_fishes 2 = .ok (.bipush 20, 2) := by decide +kernel
theorem dX4_fishes_4 : decode cX4_fishes 4 = .ok (.invokestatic 133, 3) := by decide +kernel
theorem dX4_fishes_7 : decode cX4_fishes 7 = .ok (.ifCond .ne 5, 3) := by decide +kernel
theorem dX4_fishes_10 : decode cX4_fishes 10 = .ok (.iconst (-1), 1) := by decide +kernel
theorem dX4_fishes_11 : decode cX4_fishes 11 = .ok (.ireturn, 1) := by decide +kernel
theorem dX4_fishes_12 : decode cX4_fishes 12 = .ok (.aload_n 0, 1) := by decide +kernel
theorem dX4_fishes_13 : decode cX4_fishes 13 = .ok (.invokevirtual 154, 3) := by decide +kernel
theorem dX4_fishes_16 : decode cX4_fishes 16 = .ok (.ifCond .eq 6, 3) := by decide +kernel
theorem dX4_fishes_19 : decode cX4_fishes 19 = .ok (.bipush (-4), 2) := by decide +kernel
theorem dX4_fishes_21 : decode cX4_fishes 21 = .ok (.ireturn, 1) := by decide +kernel
theorem dX4_fishes_22 : decode cX4_fishes 22 = .ok (.aload_n 0, 1) := by decide +kernel
theorem dX4_fishes_23 : decode cX4_fishes 23 = .ok (.invokevirtual 182, 3) := by decide +kernel
theorem dX4_fishes_26 : decode cX4_fishes 26 = .ok (.aload_n 0, 1) := by decide +kernel
theorem dX4_fishes_27 : decode cX4_fishes 27 = .ok (.iload_n 1, 1) := by decide +kernel
theorem dX4_fishes_28 : decode cX4_fishes 28 = .ok (.aload_n 0, 1) := by decide +kernel
theorem dX4_fishes_29 : decode cX4_fishes 29 = .ok (.getfield 21, 3) := by decide +kernel
theorem dX4_fishes_32 : decode cX4_fishes 32 = .ok (.invokevirtual 185, 3) := by decide +kernel
theorem dX4_fishes_35 : decode cX4_fishes 35 = .ok (.istore_n 2, 1) := by decide +kernel
theorem dX4_fishes_36 : decode cX4_fishes 36 = .ok (.bipush (-9), 2) := by decide +kernel
theorem dX4_fishes_38 : decode cX4_fishes 38 = .ok (.istore_n 3, 1) := by decide +kernel
theorem dX4_fishes_39 : decode cX4_fishes 39 = .ok (.iconst 0, 1) := by decide +kernel
theorem dX4_fishes_40 : decode cX4_fishes 40 = .ok (.istore 4, 2) := by decide +kernel
theorem dX4_fishes_42 : decode cX4_fishes 42 = .ok (.iload 4, 2) := by decide +kernel
theorem dX4_fishes_44 : decode cX4_fishes 44 = .ok (.aload_n 0, 1) := by decide +kernel
theorem dX4_fishes_45 : decode cX4_fishes 45 = .ok (.getfield 21, 3) := by decide +kernel
theorem dX4_fishes_48 : decode cX4_fishes 48 = .ok (.getfield 129, 3) := by decide +kernel
theorem dX4_fishes_51 : decode cX4_fishes 51 = .ok (.if_icmp .ge 56, 3) := by decide +kernel
theorem dX4_fishes_54 : decode cX4_fishes 54 = .ok (.aload_n 0, 1) := by decide +kernel
theorem dX4_fishes_55 : decode cX4_fishes 55 = .ok (.getfield 43, 3) := by decide +kernel
theorem dX4_fishes_58 : decode cX4_fishes 58 = .ok (.aload_n 0, 1) := by decide +kernel
theorem dX4_fishes_59 : decode cX4_fishes 59 = .ok (.getfield 21, 3) := by decide +kernel
theorem dX4_fishes_62 : decode cX4_fishes 62 = .ok (.invokevirtual 207, 3) := by decide +kernel
theorem dX4_fishes_65 : decode cX4_fishes 65 = .ok (.aload_n 0, 1) := by decide +kernel
theorem dX4_fishes_66 : decode cX4_fishes 66 = .ok (.getfield 43, 3) := by decide +kernel
theorem dX4_fishes_69 : decode cX4_fishes 69 = .ok (.iload 4, 2) := by decide +kernel
theorem dX4_fishes_71 : decode cX4_fishes 71 = .ok (.invokevirtual 210, 3) := by decide +kernel
theorem dX4_fishes_74 : decode cX4_fishes 74 = .ok (.aload_n 0, 1) := by decide +kernel
theorem dX4_fishes_75 : decode cX4_fishes 75 = .ok (.invokevirtual 182, 3) := by decide +kernel
theorem dX4_fishes_78 : decode cX4_fishes 78 = .ok (.aload_n 0, 1) := by decide +kernel
theorem dX4_fishes_79 : decode cX4_fishes 79 = .ok (.iload_n 1, 1) := by decide +kernel
theorem dX4_fishes_80 : decode cX4_fishes 80 = .ok (.aload_n 0, 1) := by decide +kernel
theorem dX4_fishes_81 : decode cX4_fishes 81 = .ok (.getfield 43, 3) := by decide +kernel
theorem dX4_fishes_84 : decode cX4_fishes 84 = .ok (.invokevirtual 185, 3) := by decide +kernel
theorem dX4_fishes_87 : decode cX4_fishes 87 = .ok (.istore 5, 2) := by decide +kernel
theorem dX4_fishes_89 : decode cX4_fishes 89 = .ok (.iload 5, 2) := by decide +kernel
theorem dX4_fishes_91 : decode cX4_fishes 91 = .ok (.iload_n 2, 1) := by decide +kernel
theorem dX4_fishes_92 : decode cX4_fishes 92 = .ok (.if_icmp .le 9, 3) := by decide +kernel
theorem dX4_fishes_95 : decode cX4_fishes 95 = .ok (.iload 5, 2) := by decide +kernel
theorem dX4_fishes_97 : decode cX4_fishes 97 = .ok (.istore_n 2, 1) := by decide +kernel
theorem dX4_fishes_98 : decode cX4_fishes 98 = .ok (.iload 4, 2) := by decide +kernel
theorem dX4_fishes_100 : decode cX4_fishes 100 = .ok (.istore_n 3, 1) := by decide +kernel
theorem dX4_fishes_101 : decode cX4_fishes 101 = .ok (.iinc 4 1, 3) := by decide +kernel
theorem dX4_fishes_104 : decode cX4_fishes 104 = .ok (.goto (-62), 3) := by decide +kernel
theorem dX4_fishes_107 : decode cX4_fishes 107 = .ok (.iload_n 3, 1) := by decide +kernel
theorem dX4_fishes_108 : decode cX4_fishes 108 = .ok (.bipush (-9), 2) := by decide +kernel
theorem dX4_fishes_110 : decode cX4_fishes 110 = .ok (.if_icmp .eq 8, 3) := by decide +kernel
theorem dX4_fishes_113 : decode cX4_fishes 113 = .ok (.aload_n 0, 1) := by decide +kernel
theorem dX4_fishes_114 : decode cX4_fishes 114 = .ok (.iload_n 2, 1) := by decide +kernel
theorem dX4_fishes_115 : decode cX4_fishes 115 = .ok (.putfield 53, 3) := by decide +kernel
theorem dX4_fishes_118 : decode cX4_fishes 118 = .ok (.iload_n 3, 1) := by decide +kernel
theorem dX4_fishes_119 : decode cX4_fishes 119 = .ok (.ireturn, 1) := by decide +kernel
theorem dX4_where_0 : decode cX4_where 0 = .ok (.iload_n 1, 1) := by decide +kernel
theorem dX4_where_1 : decode cX4_where 1 = .ok (.invokestatic 75, 3) := by decide +kernel
theorem dX4_where_4 : decode cX4_where 4 = .ok (.ifCond .ne 5, 3) := by decide +kernel
theorem dX4_where_7 : decode cX4_where 7 = .ok (.iconst (-1), 1) := by decide +kernel
theorem dX4_where_8 : decode cX4_where 8 = .ok (.ireturn, 1) := by decide +kernel
theorem dX4_where_9 : decode cX4_where 9 = .ok (.aload_n 0, 1) := by decide +kernel
theorem dX4_where_10 : decode cX4_where 10 = .ok (.invokevirtual 154, 3) := by decide +kernel
theorem dX4_where_13 : decode cX4_where 13 = .ok (.ifCond .eq 6, 3) := by decide +kernel
theorem dX4_where_16 : decode cX4_where 16 = .ok (.bipush (-4), 2) := by decide +kernel
theorem dX4_where_18 : decode cX4_where 18 = .ok (.ireturn, 1) := by decide +kernel
theorem dX4_where_19 : decode cX4_where 19 = .ok (.aload_n 0, 1) := by decide +kernel
theorem dX4_where_20 : decode cX4_where 20 = .ok (.getfield 11, 3) := by decide +kernel
theorem dX4_where_23 : decode cX4_where 23 = .ok (.iload_n 1, 1) := by decide +kernel
theorem dX4_where_24 : decode cX4_where 24 = .ok (.aaload, 1) := by decide +kernel
theorem dX4_where_25 : decode cX4_where 25 = .ok (.invokestatic 214, 3) := by decide +kernel
theorem dX4_where_28 : decode cX4_where 28 = .ok (.istore_n 2, 1) := by decide +kernel
theorem dX4_where_29 : decode cX4_where 29 = .ok (.iload_n 2, 1) := by decide +kernel
theorem dX4_where_30 : decode cX4_where 30 = .ok (.ifCond .eq 9, 3) := by decide +kernel
theorem dX4_where_33 : decode cX4_where 33 = .ok (.aload_n 0, 1) := by decide +kernel
theorem dX4_where_34 : decode cX4_where 34 = .ok (.iload_n 2, 1) := by decide +kernel
theorem dX4_where_35 : decode cX4_where 35 = .ok (.invokevirtual 79, 3) := by decide +kernel
theorem dX4_where_38 : decode cX4_where 38 = .ok (.ireturn, 1) := by decide +kernel
theorem dX4_where_39 : decode cX4_where 39 = .ok (.iconst 0, 1) := by decide +kernel
theorem dX4_where_40 : decode cX4_where 40 = .ok (.istore_n 3, 1) := by decide +kernel
theorem dX4_where_41 : decode cX4_where 41 = .ok (.iconst 0, 1) := by decide +kernel
theorem dX4_where_42 : decode cX4_where 42 = .ok (.istore 4, 2) := by decide +kernel
theorem dX4_where_44 : decode cX4_where 44 = .ok (.iload 4, 2) := by decide +kernel
theorem dX4_where_46 : decode cX4_where 46 = .ok (.aload_n 0, 1) := by decide +kernel
theorem dX4_where_47 : decode cX4_where 47 = .ok (.getfield 21, 3) := by decide +kernel
theorem dX4_where_50 : decode cX4_where 50 = .ok (.getfield 129, 3) := by decide +kernel
theorem dX4_where_53 : decode cX4_where 53 = .ok (.if_icmp .ge 35, 3) := by decide +kernel
theorem dX4_where_56 : decode cX4_where 56 = .ok (.aload_n 0, 1) := by decide +kernel
theorem dX4_where_57 : decode cX4_where 57 = .ok (.aload_n 0, 1) := by decide +kernel
theorem dX4_where_58 : decode cX4_where 58 = .ok (.getfield 11, 3) := by decide +kernel
theorem dX4_where_61 : decode cX4_where 61 = .ok (.iload_n 1, 1) := by decide +kernel
theorem dX4_where_62 : decode cX4_where 62 = .ok (.aaload, 1) := by decide +kernel
theorem dX4_where_63 : decode cX4_where 63 = .ok (.aload_n 0, 1) := by decide +kernel
theorem dX4_where_64 : decode cX4_where 64 = .ok (.getfield 21, 3) := by decide +kernel
theorem dX4_where_67 : decode cX4_where 67 = .ok (.iload 4, 2) := by decide +kernel
theorem dX4_where_69 : decode cX4_where 69 = .ok (.invokevirtual 217, 3) := by decide +kernel
theorem dX4_where_72 : decode cX4_where 72 = .ok (.ifCond .eq 10, 3) := by decide +kernel
theorem dX4_where_75 : decode cX4_where 75 = .ok (.iload_n 3, 1) := by decide +kernel
theorem dX4_where_76 : decode cX4_where 76 = .ok (.iconst 1, 1) := by decide +kernel
theorem dX4_where_77 : decode cX4_where 77 = .ok (.iload 4, 2) := by decide +kernel
theorem dX4_where_79 : decode cX4_where 79 = .ok (.ishl, 1) := by decide +kernel
theorem dX4_where_80 : decode cX4_where 80 = .ok (.ior, 1) := by decide +kernel
theorem dX4_where_81 : decode cX4_where 81 = .ok (.istore_n 3, 1) := by decide +kernel
theorem dX4_where_82 : decode cX4_where 82 = .ok (.iinc 4 1, 3) := by decide +kernel
theorem dX4_where_85 : decode cX4_where 85 = .ok (.goto (-41), 3) := by decide +kernel
theorem dX4_where_88 : decode cX4_where 88 = .ok (.iload_n 3, 1) := by decide +kernel
theorem dX4_where_89 : decode cX4_where 89 = .ok (.ireturn, 1) := by decide +kernel
theorem dX4_flows_0 : decode cX4_flows 0 = .ok (.aload_n 0, 1) := by decide +kernel
theorem dX4_flows_1 : decode cX4_flows 1 = .ok (.iload_n 1, 1) := by decide +kernel
theorem dX4_flows_2 : decode cX4_flows 2 = .ok (.invokevirtual 130, 3) := by decide +kernel
theorem dX4_flows_5 : decode cX4_flows 5 = .ok (.ifCond .eq 10, 3) := by decide +kernel
theorem dX4_flows_8 : decode cX4_flows 8 = .ok (.iload_n 2, 1) := by decide +kernel
theorem dX4_flows_9 : decode cX4_flows 9 = .ok (.invokestatic 75, 3) := by decide +kernel
theorem dX4_flows_12 : decode cX4_flows 12 = .ok (.ifCond .ne 5, 3) := by decide +kernel
theorem dX4_flows_15 : decode cX4_flows 15 = .ok (.iconst (-1), 1) := by decide +kernel
theorem dX4_flows_16 : decode cX4_flows 16 = .ok (.ireturn, 1) := by decide +kernel
theorem dX4_flows_17 : decode cX4_flows 17 = .ok (.aload_n 0, 1) := by decide +kernel
theorem dX4_flows_18 : decode cX4_flows 18 = .ok (.getfield 11, 3) := by decide +kernel
theorem dX4_flows_21 : decode cX4_flows 21 = .ok (.iload_n 2, 1) := by decide +kernel
theorem dX4_flows_22 : decode cX4_flows 22 = .ok (.aaload, 1) := by decide +kernel
theorem dX4_flows_23 : decode cX4_flows 23 = .ok (.invokestatic 214, 3) := by decide +kernel
theorem dX4_flows_26 : decode cX4_flows 26 = .ok (.istore_n 3, 1) := by decide +kernel
theorem dX4_flows_27 : decode cX4_flows 27 = .ok (.iload_n 3, 1) := by decide +kernel
theorem dX4_flows_28 : decode cX4_flows 28 = .ok (.ifCond .eq 9, 3) := by decide +kernel
theorem dX4_flows_31 : decode cX4_flows 31 = .ok (.aload_n 0, 1) := by decide +kernel
theorem dX4_flows_32 : decode cX4_flows 32 = .ok (.iload_n 3, 1) := by decide +kernel
theorem dX4_flows_33 : decode cX4_flows 33 = .ok (.invokevirtual 79, 3) := by decide +kernel
theorem dX4_flows_36 : decode cX4_flows 36 = .ok (.ireturn, 1) := by decide +kernel
theorem dX4_flows_37 : decode cX4_flows 37 = .ok (.aload_n 0, 1) := by decide +kernel
theorem dX4_flows_38 : decode cX4_flows 38 = .ok (.getfield 43, 3) := by decide +kernel
theorem dX4_flows_41 : decode cX4_flows 41 = .ok (.aload_n 0, 1) := by decide +kernel
theorem dX4_flows_42 : decode cX4_flows 42 = .ok (.getfield 21, 3) := by decide +kernel
theorem dX4_flows_45 : decode cX4_flows 45 = .ok (.invokevirtual 207, 3) := by decide +kernel
theorem dX4_flows_48 : decode cX4_flows 48 = .ok (.iconst 0, 1) := by decide +kernel
theorem dX4_flows_49 : decode cX4_flows 49 = .ok (.istore 4, 2) := by decide +kernel
theorem dX4_flows_51 : decode cX4_flows 51 = .ok (.iconst 0, 1) := by decide +kernel
theorem dX4_flows_52 : decode cX4_flows 52 = .ok (.istore 5, 2) := by decide +kernel
theorem dX4_flows_54 : decode cX4_flows 54 = .ok (.iload 5, 2) := by decide +kernel
theorem dX4_flows_56 : decode cX4_flows 56 = .ok (.bipush 9, 2) := by decide +kernel
theorem dX4_flows_58 : decode cX4_flows 58 = .ok (.if_icmp .gt 53, 3) := by decide +kernel
theorem dX4_flows_61 : decode cX4_flows 61 = .ok (.aload_n 0, 1) := by decide +kernel
theorem dX4_flows_62 : decode cX4_flows 62 = .ok (.getfield 43, 3) := by decide +kernel
theorem dX4_flows_65 : decode cX4_flows 65 = .ok (.getfield 221, 3) := by decide +kernel
theorem dX4_flows_68 : decode cX4_flows 68 = .ok (.iload_n 1, 1) := by decide +kernel
theorem dX4_flows_69 : decode cX4_flows 69 = .ok (.iload 5, 2) := by decide +kernel
theorem dX4_flows_71 : decode cX4_flows 71 = .ok (.iastore, 1) := by decide +kernel
theorem dX4_flows_72 : decode cX4_flows 72 = .ok (.aload_n 0, 1) := by decide +kernel
theorem dX4_flows_73 : decode cX4_flows 73 = .ok (.aload_n 0, 1) := by decide +kernel
theorem dX4_flows_74 : decode cX4_flows 74 = .ok (.getfield 11, 3) := by decide +kernel
theorem dX4_flows_77 : decode cX4_flows 77 = .ok (.iload_n 2, 1) := by decide +kernel
theorem dX4_flows_78 : decode cX4_flows 78 = .ok (.aaload, 1) := by decide +kernel
theorem dX4_flows_79 : decode cX4_flows 79 = .ok (.aload_n 0, 1) := by decide +kernel
theorem dX4_flows_80 : decode cX4_flows 80 = .ok (.getfield 43, 3) := by decide +kernel
theorem dX4_flows_83 : decode cX4_flows 83 = .ok (.aload_n 0, 1) := by decide +kernel
theorem dX4_flows_84 : decode cX4_flows 84 = .ok (.getfield 28, 3) := by decide +kernel
theorem dX4_flows_87 : decode cX4_flows 87 = .ok (.getfield 163, 3) := by decide +kernel
theorem dX4_flows_90 : decode cX4_flows 90 = .ok (.invokevirtual 217, 3) := by decide +kernel
theorem dX4_flows_93 : decode cX4_flows 93 = .ok (.ifCond .eq 12, 3) := by decide +kernel
theorem dX4_flows_96 : decode cX4_flows 96 = .ok (.iload 4, 2) := by decide +kernel
theorem dX4_flows_98 : decode cX4_flows 98 = .ok (.iconst 1, 1) := by decide +kernel
theorem dX4_flows_99 : decode cX4_flows 99 = .ok (.iload 5, 2) := by decide +kernel
theorem dX4_flows_101 : decode cX4_flows 101 = .ok (.ishl, 1) := by decide +kernel
theorem dX4_flows_102 : decode cX4_flows 102 = .ok (.ior, 1) := by decide +kernel
theorem dX4_flows_103 : decode cX4_flows 103 = .ok (.istore 4, 2) := by decide +kernel
theorem dX4_flows_105 : decode cX4_flows 105 = .ok (.iinc 5 1, 3) := by decide +kernel
theorem dX4_flows_108 : decode cX4_flows 108 = .ok (.goto (-54), 3) := by decide +kernel
theorem dX4_flows_111 : decode cX4_flows 111 = .ok (.iload 4, 2) := by decide +kernel
theorem dX4_flows_113 : decode cX4_flows 113 = .ok (.ireturn, 1) := by decide +kernel
theorem dX4_kinds_0 : decode cX4_kinds 0 = .ok (.aload_n 0, 1) := by decide +kernel
theorem dX4_kinds_1 : decode cX4_kinds 1 = .ok (.iload_n 1, 1) := by decide +kernel
theorem dX4_kinds_2 : decode cX4_kinds 2 = .ok (.invokevirtual 130, 3) := by decide +kernel
theorem dX4_kinds_5 : decode cX4_kinds 5 = .ok (.ifCond .eq 10, 3) := by decide +kernel
theorem dX4_kinds_8 : decode cX4_kinds 8 = .ok (.iload_n 2, 1) := by decide +kernel
theorem dX4_kinds_9 : decode cX4_kinds 9 = .ok (.invokestatic 75, 3) := by decide +kernel
theorem dX4_kinds_12 : decode cX4_kinds 12 = .ok (.ifCond .ne 5, 3) := by decide +kernel
theorem dX4_kinds_15 : decode cX4_kinds 15 = .ok (.iconst (-1), 1) := by decide +kernel
theorem dX4_kinds_16 : decode cX4_kinds 16 = .ok (.ireturn, 1) := by decide +kernel
theorem dX4_kinds_17 : decode cX4_kinds 17 = .ok (.aload_n 0, 1) := by decide +kernel
theorem dX4_kinds_18 : decode cX4_kinds 18 = .ok (.getfield 11, 3) := by decide +kernel
theorem dX4_kinds_21 : decode cX4_kinds 21 = .ok (.iload_n 2, 1) := by decide +kernel
theorem dX4_kinds_22 : decode cX4_kinds 22 = .ok (.aaload, 1) := by decide +kernel
theorem dX4_kinds_23 : decode cX4_kinds 23 = .ok (.invokestatic 214, 3) := by decide +kernel
theorem dX4_kinds_26 : decode cX4_kinds 26 = .ok (.istore_n 3, 1) := by decide +kernel
theorem dX4_kinds_27 : decode cX4_kinds 27 = .ok (.iload_n 3, 1) := by decide +kernel
theorem dX4_kinds_28 : decode cX4_kinds 28 = .ok (.ifCond .eq 9, 3) := by decide +kernel
theorem dX4_kinds_31 : decode cX4_kinds 31 = .ok (.aload_n 0, 1) := by decide +kernel
theorem dX4_kinds_32 : decode cX4_kinds 32 = .ok (.iload_n 3, 1) := by decide +kernel
theorem dX4_kinds_33 : decode cX4_kinds 33 = .ok (.invokevirtual 79, 3) := by decide +kernel
theorem dX4_kinds_36 : decode cX4_kinds 36 = .ok (.ireturn, 1) := by decide +kernel
theorem dX4_kinds_37 : decode cX4_kinds 37 = .ok (.aload_n 0, 1) := by decide +kernel
theorem dX4_kinds_38 : decode cX4_kinds 38 = .ok (.getfield 43, 3) := by decide +kernel
theorem dX4_kinds_41 : decode cX4_kinds 41 = .ok (.aload_n 0, 1) := by decide +kernel
theorem dX4_kinds_42 : decode cX4_kinds 42 = .ok (.getfield 21, 3) := by decide +kernel
theorem dX4_kinds_45 : decode cX4_kinds 45 = .ok (.invokevirtual 207, 3) := by decide +kernel
theorem dX4_kinds_48 : decode cX4_kinds 48 = .ok (.iconst 0, 1) := by decide +kernel
theorem dX4_kinds_49 : decode cX4_kinds 49 = .ok (.istore 4, 2) := by decide +kernel
theorem dX4_kinds_51 : decode cX4_kinds 51 = .ok (.iconst 0, 1) := by decide +kernel
theorem dX4_kinds_52 : decode cX4_kinds 52 = .ok (.istore 5, 2) := by decide +kernel
theorem dX4_kinds_54 : decode cX4_kinds 54 = .ok (.iload 5, 2) := by decide +kernel
theorem dX4_kinds_56 : decode cX4_kinds 56 = .ok (.bipush 6, 2) := by decide +kernel
theorem dX4_kinds_58 : decode cX4_kinds 58 = .ok (.if_icmp .ge 53, 3) := by decide +kernel
theorem dX4_kinds_61 : decode cX4_kinds 61 = .ok (.aload_n 0, 1) := by decide +kernel
theorem dX4_kinds_62 : decode cX4_kinds 62 = .ok (.getfield 43, 3) := by decide +kernel
theorem dX4_kinds_65 : decode cX4_kinds 65 = .ok (.getfield 141, 3) := by decide +kernel
theorem dX4_kinds_68 : decode cX4_kinds 68 = .ok (.iload_n 1, 1) := by decide +kernel
theorem dX4_kinds_69 : decode cX4_kinds 69 = .ok (.iload 5, 2) := by decide +kernel
theorem dX4_kinds_71 : decode cX4_kinds 71 = .ok (.iastore, 1) := by decide +kernel
theorem dX4_kinds_72 : decode cX4_kinds 72 = .ok (.aload_n 0, 1) := by decide +kernel
theorem dX4_kinds_73 : decode cX4_kinds 73 = .ok (.aload_n 0, 1) := by decide +kernel
theorem dX4_kinds_74 : decode cX4_kinds 74 = .ok (.getfield 11, 3) := by decide +kernel
theorem dX4_kinds_77 : decode cX4_kinds 77 = .ok (.iload_n 2, 1) := by decide +kernel
theorem dX4_kinds_78 : decode cX4_kinds 78 = .ok (.aaload, 1) := by decide +kernel
theorem dX4_kinds_79 : decode cX4_kinds 79 = .ok (.aload_n 0, 1) := by decide +kernel
theorem dX4_kinds_80 : decode cX4_kinds 80 = .ok (.getfield 43, 3) := by decide +kernel
theorem dX4_kinds_83 : decode cX4_kinds 83 = .ok (.aload_n 0, 1) := by decide +kernel
theorem dX4_kinds_84 : decode cX4_kinds 84 = .ok (.getfield 28, 3) := by decide +kernel
theorem dX4_kinds_87 : decode cX4_kinds 87 = .ok (.getfield 163, 3) := by decide +kernel
theorem dX4_kinds_90 : decode cX4_kinds 90 = .ok (.invokevirtual 217, 3) := by decide +kernel
theorem dX4_kinds_93 : decode cX4_kinds 93 = .ok (.ifCond .eq 12, 3) := by decide +kernel
theorem dX4_kinds_96 : decode cX4_kinds 96 = .ok (.iload 4, 2) := by decide +kernel
theorem dX4_kinds_98 : decode cX4_kinds 98 = .ok (.iconst 1, 1) := by decide +kernel
theorem dX4_kinds_99 : decode cX4_kinds 99 = .ok (.iload 5, 2) := by decide +kernel
theorem dX4_kinds_101 : decode cX4_kinds 101 = .ok (.ishl, 1) := by decide +kernel
theorem dX4_kinds_102 : decode cX4_kinds 102 = .ok (.ior, 1) := by decide +kernel
theorem dX4_kinds_103 : decode cX4_kinds 103 = .ok (.istore 4, 2) := by decide +kernel
theorem dX4_kinds_105 : decode cX4_kinds 105 = .ok (.iinc 5 1, 3) := by decide +kernel
theorem dX4_kinds_108 : decode cX4_kinds 108 = .ok (.goto (-54), 3) := by decide +kernel
theorem dX4_kinds_111 : decode cX4_kinds 111 = .ok (.iload 4, 2) := by decide +kernel
theorem dX4_kinds_113 : decode cX4_kinds 113 = .ok (.ireturn, 1) := by decide +kernel
theorem dX4_look_0 : decode cX4_look 0 = .ok (.aload_n 0, 1) := by decide +kernel
theorem dX4_look_1 : decode cX4_look 1 = .ok (.iload_n 1, 1) := by decide +kernel
theorem dX4_look_2 : decode cX4_look 2 = .ok (.invokevirtual 130, 3) := by decide +kernel
theorem dX4_look_5 : decode cX4_look 5 = .ok (.ifCond .ne 5, 3) := by decide +kernel
theorem dX4_look_8 : decode cX4_look 8 = .ok (.iconst (-1), 1) := by decide +kernel
theorem dX4_look_9 : decode cX4_look 9 = .ok (.ireturn, 1) := by decide +kernel
theorem dX4_look_10 : decode cX4_look 10 = .ok (.iconst 0, 1) := by decide +kernel
theorem dX4_look_11 : decode cX4_look 11 = .ok (.istore_n 2, 1) := by decide +kernel
theorem dX4_look_12 : decode cX4_look 12 = .ok (.bipush 7, 2) := by decide +kernel
theorem dX4_look_14 : decode cX4_look 14 = .ok (.istore_n 3, 1) := by decide +kernel
theorem dX4_look_15 : decode cX4_look 15 = .ok (.iconst 0, 1) := by decide +kernel
theorem dX4_look_16 : decode cX4_look 16 = .ok (.istore 4, 2) := by decide +kernel
theorem dX4_look_18 : decode cX4_look 18 = .ok (.iload 4, 2) := by decide +kernel
theorem dX4_look_20 : decode cX4_look 20 = .ok (.iconst 4, 1) := by decide +kernel
theorem dX4_look_21 : decode cX4_look 21 = .ok (.if_icmp .gt 30, 3) := by decide +kernel
theorem dX4_look_24 : decode cX4_look 24 = .ok (.aload_n 0, 1) := by decide +kernel
theorem dX4_look_25 : decode cX4_look 25 = .ok (.iload_n 1, 1) := by decide +kernel
theorem dX4_look_26 : decode cX4_look 26 = .ok (.iload 4, 2) := by decide +kernel
theorem dX4_look_28 : decode cX4_look 28 = .ok (.invokevirtual 224, 3) := by decide +kernel
theorem dX4_look_31 : decode cX4_look 31 = .ok (.istore 5, 2) := by decide +kernel
theorem dX4_look_33 : decode cX4_look 33 = .ok (.iload 5, 2) := by decide +kernel
theorem dX4_look_35 : decode cX4_look 35 = .ok (.iload_n 3, 1) := by decide +kernel
theorem dX4_look_36 : decode cX4_look 36 = .ok (.if_icmp .ge 9, 3) := by decide +kernel
theorem dX4_look_39 : decode cX4_look 39 = .ok (.iload 5, 2) := by decide +kernel
theorem dX4_look_41 : decode cX4_look 41 = .ok (.istore_n 3, 1) := by decide +kernel
theorem dX4_look_42 : decode cX4_look 42 = .ok (.iload 4, 2) := by decide +kernel
theorem dX4_look_44 : decode cX4_look 44 = .ok (.istore_n 2, 1) := by decide +kernel
theorem dX4_look_45 : decode cX4_look 45 = .ok (.iinc 4 1, 3) := by decide +kernel
theorem dX4_look_48 : decode cX4_look 48 = .ok (.goto (-30), 3) := by decide +kernel
theorem dX4_look_51 : decode cX4_look 51 = .ok (.aload_n 0, 1) := by decide +kernel
theorem dX4_look_52 : decode cX4_look 52 = .ok (.iload_n 3, 1) := by decide +kernel
theorem dX4_look_53 : decode cX4_look 53 = .ok (.putfield 53, 3) := by decide +kernel
theorem dX4_look_56 : decode cX4_look 56 = .ok (.iload_n 2, 1) := by decide +kernel
theorem dX4_look_57 : decode cX4_look 57 = .ok (.ireturn, 1) := by decide +kernel
theorem dX4_duel_0 : decode cX4_duel 0 = .ok (.iload_n 1, 1) := by decide +kernel
theorem dX4_duel_1 : decode cX4_duel 1 = .ok (.iconst 0, 1) := by decide +kernel
theorem dX4_duel_2 : decode cX4_duel 2 = .ok (.bipush 6, 2) := by decide +kernel
theorem dX4_duel_4 : decode cX4_duel 4 = .ok (.invokestatic 133, 3) := by decide +kernel
theorem dX4_duel_7 : decode cX4_duel 7 = .ok (.ifCond .ne 5, 3) := by decide +kernel
theorem dX4_duel_10 : decode cX4_duel 10 = .ok (.iconst (-1), 1) := by decide +kernel
theorem dX4_duel_11 : decode cX4_duel 11 = .ok (.ireturn, 1) := by decide +kernel
theorem dX4_duel_12 : decode cX4_duel 12 = .ok (.aload_n 0, 1) := by decide +kernel
theorem dX4_duel_13 : decode cX4_duel 13 = .ok (.invokevirtual 154, 3) := by decide +kernel
theorem dX4_duel_16 : decode cX4_duel 16 = .ok (.ifCond .eq 6, 3) := by decide +kernel
theorem dX4_duel_19 : decode cX4_duel 19 = .ok (.bipush (-4), 2) := by decide +kernel
theorem dX4_duel_21 : decode cX4_duel 21 = .ok (.ireturn, 1) := by decide +kernel
theorem dX4_duel_22 : decode cX4_duel 22 = .ok (.aload_n 0, 1) := by decide +kernel
theorem dX4_duel_23 : decode cX4_duel 23 = .ok (.iload_n 1, 1) := by decide +kernel
theorem dX4_duel_24 : decode cX4_duel 24 = .ok (.aload_n 0, 1) := by decide +kernel
theorem dX4_duel_25 : decode cX4_duel 25 = .ok (.getfield 28, 3) := by decide +kernel
theorem dX4_duel_28 : decode cX4_duel 28 = .ok (.getfield 166, 3) := by decide +kernel
theorem dX4_duel_31 : decode cX4_duel 31 = .ok (.aload_n 0, 1) := by decide +kernel
theorem dX4_duel_32 : decode cX4_duel 32 = .ok (.getfield 28, 3) := by decide +kernel
theorem dX4_duel_35 : decode cX4_duel 35 = .ok (.getfield 169, 3) := by decide +kernel
theorem dX4_duel_38 : decode cX4_duel 38 = .ok (.invokevirtual 227, 3) := by decide +kernel
theorem dX4_duel_41 : decode cX4_duel 41 = .ok (.ireturn, 1) := by decide +kernel
theorem dX4_odds_0 : decode cX4_odds 0 = .ok (.iload_n 1, 1) := by decide +kernel
theorem dX4_odds_1 : decode cX4_odds 1 = .ok (.iconst 0, 1) := by decide +kernel
theorem dX4_odds_2 : decode cX4_odds 2 = .ok (.sipush 400, 3) := by decide +kernel
theorem dX4_odds_5 : decode cX4_odds 5 = .ok (.invokestatic 133, 3) := by decide +kernel
theorem dX4_odds_8 : decode cX4_odds 8 = .ok (.ifCond .eq 13, 3) := by decide +kernel
theorem dX4_odds_11 : decode cX4_odds 11 = .ok (.iload_n 2, 1) := by decide +kernel
theorem dX4_odds_12 : decode cX4_odds 12 = .ok (.iconst 0, 1) := by decide +kernel
theorem dX4_odds_13 : decode cX4_odds 13 = .ok (.bipush 12, 2) := by decide +kernel
theorem dX4_odds_15 : decode cX4_odds 15 = .ok (.invokestatic 133, 3) := by decide +kernel
theorem dX4_odds_18 : decode cX4_odds 18 = .ok (.ifCond .ne 5, 3) := by decide +kernel
theorem dX4_odds_21 : decode cX4_odds 21 = .ok (.iconst (-1), 1) := by decide +kernel
theorem dX4_odds_22 : decode cX4_odds 22 = .ok (.ireturn, 1) := by decide +kernel
