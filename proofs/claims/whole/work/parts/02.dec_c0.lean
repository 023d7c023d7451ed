theorem dX5_init_0 : decode cX5_init 0 = .ok (.aload_n 0, 1) := by decide +kernel
theorem dX5_init_1 : decode cX5_init 1 = .ok (.invokespecial 1, 3) := by decide +kernel
theorem dX5_init_4 : decode cX5_init 4 = .ok (.aload_n 0, 1) := by decide +kernel
theorem dX5_init_5 : decode cX5_init 5 = .ok (.bipush 6, 2) := by decide +kernel
theorem dX5_init_7 : decode cX5_init 7 = .ok (.newarray .int, 2) := by decide +kernel
theorem dX5_init_9 : decode cX5_init 9 = .ok (.putfield 7, 3) := by decide +kernel
theorem dX5_init_12 : decode cX5_init 12 = .ok (.aload_n 0, 1) := by decide +kernel
theorem dX5_init_13 : decode cX5_init 13 = .ok (.sipush 240, 3) := by decide +kernel
theorem dX5_init_16 : decode cX5_init 16 = .ok (.newarray .int, 2) := by decide +kernel
theorem dX5_init_18 : decode cX5_init 18 = .ok (.putfield 13, 3) := by decide +kernel
theorem dX5_init_21 : decode cX5_init 21 = .ok (.aload_n 0, 1) := by decide +kernel
theorem dX5_init_22 : decode cX5_init 22 = .ok (.iconst 4, 1) := by decide +kernel
theorem dX5_init_23 : decode cX5_init 23 = .ok (.newarray .int, 2) := by decide +kernel
theorem dX5_init_25 : decode cX5_init 25 = .ok (.putfield 16, 3) := by decide +kernel
theorem dX5_init_28 : decode cX5_init 28 = .ok (.aload_n 0, 1) := by decide +kernel
theorem dX5_init_29 : decode cX5_init 29 = .ok (.sipush 240, 3) := by decide +kernel
theorem dX5_init_32 : decode cX5_init 32 = .ok (.newarray .byte, 2) := by decide +kernel
theorem dX5_init_34 : decode cX5_init 34 = .ok (.putfield 19, 3) := by decide +kernel
theorem dX5_init_37 : decode cX5_init 37 = .ok (.aload_n 0, 1) := by decide +kernel
theorem dX5_init_38 : decode cX5_init 38 = .ok (.bipush 9, 2) := by decide +kernel
theorem dX5_init_40 : decode cX5_init 40 = .ok (.newarray .int, 2) := by decide +kernel
theorem dX5_init_42 : decode cX5_init 42 = .ok (.putfield 23, 3) := by decide +kernel
theorem dX5_init_45 : decode cX5_init 45 = .ok (.aload_n 0, 1) := by decide +kernel
theorem dX5_init_46 : decode cX5_init 46 = .ok (.bipush 9, 2) := by decide +kernel
theorem dX5_init_48 : decode cX5_init 48 = .ok (.newarray .int, 2) := by decide +kernel
theorem dX5_init_50 : decode cX5_init 50 = .ok (.putfield 26, 3) := by decide +kernel
theorem dX5_init_53 : decode cX5_init 53 = .ok (.aload_n 0, 1) := by decide +kernel
theorem dX5_init_54 : decode cX5_init 54 = .ok (.bipush 9, 2) := by decide +kernel
theorem dX5_init_56 : decode cX5_init 56 = .ok (.newarray .int, 2) := by decide +kernel
theorem dX5_init_58 : decode cX5_init 58 = .ok (.putfield 29, 3) := by decide +kernel
theorem dX5_init_61 : decode cX5_init 61 = .ok (.aload_n 0, 1) := by decide +kernel
theorem dX5_init_62 : decode cX5_init 62 = .ok (.bipush 10, 2) := by decide +kernel
theorem dX5_init_64 : decode cX5_init 64 = .ok (.newarray .int, 2) := by decide +kernel
theorem dX5_init_66 : decode cX5_init 66 = .ok (.putfield 32, 3) := by decide +kernel
theorem dX5_init_69 : decode cX5_init 69 = .ok (.aload_n 0, 1) := by decide +kernel
theorem dX5_init_70 : decode cX5_init 70 = .ok (.bipush 10, 2) := by decide +kernel
theorem dX5_init_72 : decode cX5_init 72 = .ok (.newarray .int, 2) := by decide +kernel
theorem dX5_init_74 : decode cX5_init 74 = .ok (.putfield 35, 3) := by decide +kernel
theorem dX5_init_77 : decode cX5_init 77 = .ok (.aload_n 0, 1) := by decide +kernel
theorem dX5_init_78 : decode cX5_init 78 = .ok (.bipush 10, 2) := by decide +kernel
theorem dX5_init_80 : decode cX5_init 80 = .ok (.newarray .int, 2) := by decide +kernel
theorem dX5_init_82 : decode cX5_init 82 = .ok (.putfield 38, 3) := by decide +kernel
theorem dX5_init_85 : decode cX5_init 85 = .ok (.aload_n 0, 1) := by decide +kernel
theorem dX5_init_86 : decode cX5_init 86 = .ok (.sipush 1020, 3) := by decide +kernel
theorem dX5_init_89 : decode cX5_init 89 = .ok (.newarray .int, 2) := by decide +kernel
theorem dX5_init_91 : decode cX5_init 91 = .ok (.putfield 41, 3) := by decide +kernel
theorem dX5_init_94 : decode cX5_init 94 = .ok (.aload_n 0, 1) := by decide +kernel
theorem dX5_init_95 : decode cX5_init 95 = .ok (.iconst 3, 1) := by decide +kernel
theorem dX5_init_96 : decode cX5_init 96 = .ok (.newarray .int, 2) := by decide +kernel
theorem dX5_init_98 : decode cX5_init 98 = .ok (.putfield 44, 3) := by decide +kernel
theorem dX5_init_101 : decode cX5_init 101 = .ok (.aload_n 0, 1) := by decide +kernel
theorem dX5_init_102 : decode cX5_init 102 = .ok (.lconst 1, 1) := by decide +kernel
theorem dX5_init_103 : decode cX5_init 103 = .ok (.putfield 47, 3) := by decide +kernel
theorem dX5_init_106 : decode cX5_init 106 = .ok (.aload_n 0, 1) := by decide +kernel
theorem dX5_init_107 : decode cX5_init 107 = .ok (.bipush 6, 2) := by decide +kernel
theorem dX5_init_109 : decode cX5_init 109 = .ok (.newarray .int, 2) := by decide +kernel
theorem dX5_init_111 : decode cX5_init 111 = .ok (.putfield 51, 3) := by decide +kernel
theorem dX5_init_114 : decode cX5_init 114 = .ok (.aload_n 0, 1) := by decide +kernel
theorem dX5_init_115 : decode cX5_init 115 = .ok (.sipush 216, 3) := by decide +kernel
theorem dX5_init_118 : decode cX5_init 118 = .ok (.newarray .int, 2) := by decide +kernel
theorem dX5_init_120 : decode cX5_init 120 = .ok (.putfield 54, 3) := by decide +kernel
theorem dX5_init_123 : decode cX5_init 123 = .ok (.iconst 0, 1) := by decide +kernel
theorem dX5_init_124 : decode cX5_init 124 = .ok (.istore_n 1, 1) := by decide +kernel
theorem dX5_init_125 : decode cX5_init 125 = .ok (.iload_n 1, 1) := by decide +kernel
theorem dX5_init_126 : decode cX5_init 126 = .ok (.bipush 6, 2) := by decide +kernel
theorem dX5_init_128 : decode cX5_init 128 = .ok (.if_icmp .ge 16, 3) := by decide +kernel
theorem dX5_init_131 : decode cX5_init 131 = .ok (.aload_n 0, 1) := by decide +kernel
theorem dX5_init_132 : decode cX5_init 132 = .ok (.getfield 7, 3) := by decide +kernel
theorem dX5_init_135 : decode cX5_init 135 = .ok (.iload_n 1, 1) := by decide +kernel
theorem dX5_init_136 : decode cX5_init 136 = .ok (.iconst (-1), 1) := by decide +kernel
theorem dX5_init_137 : decode cX5_init 137 = .ok (.iastore, 1) := by decide +kernel
theorem dX5_init_138 : decode cX5_init 138 = .ok (.iinc 1 1, 3) := by decide +kernel
theorem dX5_init_141 : decode cX5_init 141 = .ok (.goto (-16), 3) := by decide +kernel
theorem dX5_init_144 : decode cX5_init 144 = .ok (.iconst 0, 1) := by decide +kernel
theorem dX5_init_145 : decode cX5_init 145 = .ok (.istore_n 1, 1) := by decide +kernel
theorem dX5_init_146 : decode cX5_init 146 = .ok (.iload_n 1, 1) := by decide +kernel
theorem dX5_init_147 : decode cX5_init 147 = .ok (.iconst 4, 1) := by decide +kernel
theorem dX5_init_148 : decode cX5_init 148 = .ok (.if_icmp .ge 16, 3) := by decide +kernel
theorem dX5_init_151 : decode cX5_init 151 = .ok (.aload_n 0, 1) := by decide +kernel
theorem dX5_init_152 : decode cX5_init 152 = .ok (.getfield 16, 3) := by decide +kernel
theorem dX5_init_155 : decode cX5_init 155 = .ok (.iload_n 1, 1) := by decide +kernel
theorem dX5_init_156 : decode cX5_init 156 = .ok (.iconst (-1), 1) := by decide +kernel
theorem dX5_init_157 : decode cX5_init 157 = .ok (.iastore, 1) := by decide +kernel
theorem dX5_init_158 : decode cX5_init 158 = .ok (.iinc 1 1, 3) := by decide +kernel
theorem dX5_init_161 : decode cX5_init 161 = .ok (.goto (-15), 3) := by decide +kernel
theorem dX5_init_164 : decode cX5_init 164 = .ok (.iconst 0, 1) := by decide +kernel
theorem dX5_init_165 : decode cX5_init 165 = .ok (.istore_n 1, 1) := by decide +kernel
theorem dX5_init_166 : decode cX5_init 166 = .ok (.iload_n 1, 1) := by decide +kernel
theorem dX5_init_167 : decode cX5_init 167 = .ok (.iconst 3, 1) := by decide +kernel
theorem dX5_init_168 : decode cX5_init 168 = .ok (.if_icmp .ge 16, 3) := by decide +kernel
theorem dX5_init_171 : decode cX5_init 171 = .ok (.aload_n 0, 1) := by decide +kernel
theorem dX5_init_172 : decode cX5_init 172 = .ok (.getfield 44, 3) := by decide +kernel
theorem dX5_init_175 : decode cX5_init 175 = .ok (.iload_n 1, 1) := by decide +kernel
theorem dX5_init_176 : decode cX5_init 176 = .ok (.iconst (-1), 1) := by decide +kernel
theorem dX5_init_177 : decode cX5_init 177 = .ok (.iastore, 1) := by decide +kernel
theorem dX5_init_178 : decode cX5_init 178 = .ok (.iinc 1 1, 3) := by decide +kernel
theorem dX5_init_181 : decode cX5_init 181 = .ok (.goto (-15), 3) := by decide +kernel
theorem dX5_init_184 : decode cX5_init 184 = .ok (.return_, 1) := by decide +kernel
theorem dX5_in_0 : decode cX5_in 0 = .ok (.lload_n 0, 1) := by decide +kernel
theorem dX5_in_1 : decode cX5_in 1 = .ok (.lload_n 2, 1) := by decide +kernel
theorem dX5_in_2 : decode cX5_in 2 = .ok (.lcmp, 1) := by decide +kernel
theorem dX5_in_3 : decode cX5_in 3 = .ok (.ifCond .lt 14, 3) := by decide +kernel
theorem dX5_in_6 : decode cX5_in 6 = .ok (.lload_n 0, 1) := by decide +kernel
theorem dX5_in_7 : decode cX5_in 7 = .ok (.lload 4, 2) := by decide +kernel
theorem dX5_in_9 : decode cX5_in 9 = .ok (.lcmp, 1) := by decide +kernel
theorem dX5_in_10 : decode cX5_in 10 = .ok (.ifCond .gt 7, 3) := by decide +kernel
theorem dX5_in_13 : decode cX5_in 13 = .ok (.iconst 1, 1) := by decide +kernel
theorem dX5_in_14 : decode cX5_in 14 = .ok (.goto 4, 3) := by decide +kernel
theorem dX5_in_17 : decode cX5_in 17 = .ok (.iconst 0, 1) := by decide +kernel
theorem dX5_in_18 : decode cX5_in 18 = .ok (.ireturn, 1) := by decide +kernel
theorem dX5_has_0 : decode cX5_has 0 = .ok (.iload_n 0, 1) := by decide +kernel
theorem dX5_has_1 : decode cX5_has 1 = .ok (.iload_n 1, 1) := by decide +kernel
theorem dX5_has_2 : decode cX5_has 2 = .ok (.ishr, 1) := by decide +kernel
theorem dX5_has_3 : decode cX5_has 3 = .ok (.iconst 1, 1) := by decide +kernel
theorem dX5_has_4 : decode cX5_has 4 = .ok (.iand, 1) := by decide +kernel
theorem dX5_has_5 : decode cX5_has 5 = .ok (.iconst 1, 1) := by decide +kernel
theorem dX5_has_6 : decode cX5_has 6 = .ok (.if_icmp .ne 7, 3) := by decide +kernel
theorem dX5_has_9 : decode cX5_has 9 = .ok (.iconst 1, 1) := by decide +kernel
theorem dX5_has_10 : decode cX5_has 10 = .ok (.goto 4, 3) := by decide +kernel
theorem dX5_has_13 : decode cX5_has 13 = .ok (.iconst 0, 1) := by decide +kernel
theorem dX5_has_14 : decode cX5_has 14 = .ok (.ireturn, 1) := by decide +kernel
theorem dX5_bits_0 : decode cX5_bits 0 = .ok (.iconst 0, 1) := by decide +kernel
theorem dX5_bits_1 : decode cX5_bits 1 = .ok (.istore_n 1, 1) := by decide +kernel
theorem dX5_bits_2 : decode cX5_bits 2 = .ok (.iconst 0, 1) := by decide +kernel
theorem dX5_bits_3 : decode cX5_bits 3 = .ok (.istore_n 2, 1) := by decide +kernel
theorem dX5_bits_4 : decode cX5_bits 4 = .ok (.iload_n 2, 1) := by decide +kernel
theorem dX5_bits_5 : decode cX5_bits 5 = .ok (.bipush 10, 2) := by decide +kernel
theorem dX5_bits_7 : decode cX5_bits 7 = .ok (.if_icmp .ge 17, 3) := by decide +kernel
theorem dX5_bits_10 : decode cX5_bits 10 = .ok (.iload_n 1, 1) := by decide +kernel
theorem dX5_bits_11 : decode cX5_bits 11 = .ok (.iload_n 0, 1) := by decide +kernel
theorem dX5_bits_12 : decode cX5_bits 12 = .ok (.iload_n 2, 1) := by decide +kernel
theorem dX5_bits_13 : decode cX5_bits 13 = .ok (.ishr, 1) := by decide +kernel
theorem dX5_bits_14 : decode cX5_bits 14 = .ok (.iconst 1, 1) := by decide +kernel
theorem dX5_bits_15 : decode cX5_bits 15 = .ok (.iand, 1) := by decide +kernel
theorem dX5_bits_16 : decode cX5_bits 16 = .ok (.iadd, 1) := by decide +kernel
theorem dX5_bits_17 : decode cX5_bits 17 = .ok (.istore_n 1, 1) := by decide +kernel
theorem dX5_bits_18 : decode cX5_bits 18 = .ok (.iinc 2 1, 3) := by decide +kernel
theorem dX5_bits_21 : decode cX5_bits 21 = .ok (.goto (-17), 3) := by decide +kernel
theorem dX5_bits_24 : decode cX5_bits 24 = .ok (.iload_n 1, 1) := by decide +kernel
theorem dX5_bits_25 : decode cX5_bits 25 = .ok (.ireturn, 1) := by decide +kernel
theorem dX5_smaller_0 : decode cX5_smaller 0 = .ok (.iload_n 0, 1) := by decide +kernel
theorem dX5_smaller_1 : decode cX5_smaller 1 = .ok (.iload_n 1, 1) := by decide +kernel
theorem dX5_smaller_2 : decode cX5_smaller 2 = .ok (.if_icmp .ge 7, 3) := by decide +kernel
theorem dX5_smaller_5 : decode cX5_smaller 5 = .ok (.iload_n 0, 1) := by decide +kernel
theorem dX5_smaller_6 : decode cX5_smaller 6 = .ok (.goto 4, 3) := by decide +kernel
theorem dX5_smaller_9 : decode cX5_smaller 9 = .ok (.iload_n 1, 1) := by decide +kernel
theorem dX5_smaller_10 : decode cX5_smaller 10 = .ok (.ireturn, 1) := by decide +kernel
theorem dX5_larger_0 : decode cX5_larger 0 = .ok (.iload_n 0, 1) := by decide +kernel
theorem dX5_larger_1 : decode cX5_larger 1 = .ok (.iload_n 1, 1) := by decide +kernel
theorem dX5_larger_2 : decode cX5_larger 2 = .ok (.if_icmp .ge 7, 3) := by decide +kernel
theorem dX5_larger_5 : decode cX5_larger 5 = .ok (.iload_n 1, 1) := by decide +kernel
theorem dX5_larger_6 : decode cX5_larger 6 = .ok (.goto 4, 3) := by decide +kernel
theorem dX5_larger_9 : decode cX5_larger 9 = .ok (.iload_n 0, 1) := by decide +kernel
theorem dX5_larger_10 : decode cX5_larger 10 = .ok (.ireturn, 1) := by decide +kernel
theorem dX5_finds_0 : decode cX5_finds 0 = .ok (.aload_n 0, 1) := by decide +kernel
theorem dX5_finds_1 : decode cX5_finds 1 = .ok (.iload_n 1, 1) := by decide +kernel
theorem dX5_finds_2 : decode cX5_finds 2 = .ok (.putfield 57, 3) := by decide +kernel
theorem dX5_finds_5 : decode cX5_finds 5 = .ok (.aload_n 0, 1) := by decide +kernel
theorem dX5_finds_6 : decode cX5_finds 6 = .ok (.getfield 51, 3) := by decide +kernel
theorem dX5_finds_9 : decode cX5_finds 9 = .ok (.iload_n 1, 1) := by decide +kernel
theorem dX5_finds_10 : decode cX5_finds 10 = .ok (.dup2, 1) := by decide +kernel
theorem dX5_finds_11 : decode cX5_finds 11 = .ok (.iaload, 1) := by decide +kernel
theorem dX5_finds_12 : decode cX5_finds 12 = .ok (.iconst 1, 1) := by decide +kernel
theorem dX5_finds_13 : decode cX5_finds 13 = .ok (.iadd, 1) := by decide +kernel
theorem dX5_finds_14 : decode cX5_finds 14 = .ok (.iastore, 1) := by decide +kernel
theorem dX5_finds_15 : decode cX5_finds 15 = .ok (.bipush (-3), 2) := by decide +kernel
theorem dX5_finds_17 : decode cX5_finds 17 = .ok (.ireturn, 1) := by decide +kernel
theorem dX5_row_0 : decode cX5_row 0 = .ok (.iload_n 1, 1) := by decide +kernel
theorem dX5_row_1 : decode cX5_row 1 = .ok (.i2l, 1) := by decide +kernel
theorem dX5_row_2 : decode cX5_row 2 = .ok (.lconst 0, 1) := by decide +kernel
theorem dX5_row_3 : decode cX5_row 3 = .ok (.ldc2_w 61, 3) := by decide +kernel
theorem dX5_row_6 : decode cX5_row 6 = .ok (.invokestatic 63, 3) := by decide +kernel
theorem dX5_row_9 : decode cX5_row 9 = .ok (.ifCond .eq 9, 3) := by decide +kernel
theorem dX5_row_12 : decode cX5_row 12 = .ok (.iload_n 2, 1) := by decide +kernel
theorem dX5_row_13 : decode cX5_row 13 = .ok (.bipush 40, 2) := by decide +kernel
theorem dX5_row_15 : decode cX5_row 15 = .ok (.if_icmp .le 5, 3) := by decide +kernel
theorem dX5_row_18 : decode cX5_row 18 = .ok (.iconst (-1), 1) := by decide +kernel
theorem dX5_row_19 : decode cX5_row 19 = .ok (.ireturn, 1) := by decide +kernel
theorem dX5_row_20 : decode cX5_row 20 = .ok (.iload_n 2, 1) := by decide +kernel
theorem dX5_row_21 : decode cX5_row 21 = .ok (.ifCond .ge 9, 3) := by decide +kernel
theorem dX5_row_24 : decode cX5_row 24 = .ok (.aload_n 0, 1) := by decide +kernel
theorem dX5_row_25 : decode cX5_row 25 = .ok (.iconst 5, 1) := by decide +kernel
theorem dX5_row_26 : decode cX5_row 26 = .ok (.invokevirtual 67, 3) := by decide +kernel
theorem dX5_row_29 : decode cX5_row 29 = .ok (.ireturn, 1) := by decide +kernel
theorem dX5_row_30 : decode cX5_row 30 = .ok (.aload_n 0, 1) := by decide +kernel
theorem dX5_row_31 : decode cX5_row 31 = .ok (.iload_n 1, 1) := by decide +kernel
theorem dX5_row_32 : decode cX5_row 32 = .ok (.iload_n 2, 1) := by decide +kernel
theorem dX5_row_33 : decode cX5_row 33 = .ok (.invokevirtual 71, 3) := by decide +kernel
theorem dX5_row_36 : decode cX5_row 36 = .ok (.iload_n 2, 1) := by decide +kernel
theorem dX5_row_37 : decode cX5_row 37 = .ok (.ireturn, 1) := by decide +kernel
theorem dX5_begins_0 : decode cX5_begins 0 = .ok (.aload_n 0, 1) := by decide +kernel
theorem dX5_begins_1 : decode cX5_begins 1 = .ok (.getfield 7, 3) := by decide +kernel
theorem dX5_begins_4 : decode cX5_begins 4 = .ok (.iload_n 1, 1) := by decide +kernel
theorem dX5_begins_5 : decode cX5_begins 5 = .ok (.iload_n 2, 1) := by decide +kernel
theorem dX5_begins_6 : decode cX5_begins 6 = .ok (.iastore, 1) := by decide +kernel
theorem dX5_begins_7 : decode cX5_begins 7 = .ok (.iconst 0, 1) := by decide +kernel
theorem dX5_begins_8 : decode cX5_begins 8 = .ok (.istore_n 3, 1) := by decide +kernel
theorem dX5_begins_9 : decode cX5_begins 9 = .ok (.iload_n 3, 1) := by decide +kernel
theorem dX5_begins_10 : decode cX5_begins 10 = .ok (.bipush 40, 2) := by decide +kernel
theorem dX5_begins_12 : decode cX5_begins 12 = .ok (.if_icmp .ge 21, 3) := by decide +kernel
theorem dX5_begins_15 : decode cX5_begins 15 = .ok (.aload_n 0, 1) := by decide +kernel
theorem dX5_begins_16 : decode cX5_begins 16 = .ok (.getfield 13, 3) := by decide +kernel
theorem dX5_begins_19 : decode cX5_begins 19 = .ok (.bipush 40, 2) := by decide +kernel
theorem dX5_begins_21 : decode cX5_begins 21 = .ok (.iload_n 1, 1) := by decide +kernel
theorem dX5_begins_22 : decode cX5_begins 22 = .ok (.imul, 1) := by decide +kernel
theorem dX5_begins_23 : decode cX5_begins 23 = .ok (.iload_n 3, 1) := by decide +kernel
theorem dX5_begins_24 : decode cX5_begins 24 = .ok (.iadd, 1) := by decide +kernel
theorem dX5_begins_25 : decode cX5_begins 25 = .ok (.iconst 0, 1) := by decide +kernel
theorem dX5_begins_26 : decode cX5_begins 26 = .ok (.iastore, 1) := by decide +kernel
theorem dX5_begins_27 : decode cX5_begins 27 = .ok (.iinc 3 1, 3) := by decide +kernel
theorem dX5_begins_30 : decode cX5_begins 30 = .ok (.goto (-21), 3) := by decide +kernel
theorem dX5_begins_33 : decode cX5_begins 33 = .ok (.return_, 1) := by decide +kernel
theorem dX5_lay_0 : decode cX5_lay 0 = .ok (.iload_n 1, 1) := by decide +kernel
theorem dX5_lay_1 : decode cX5_lay 1 = .ok (.i2l, 1) := by decide +kernel
theorem dX5_lay_2 : decode cX5_lay 2 = .ok (.lconst 0, 1) := by decide +kernel
theorem dX5_lay_3 : decode cX5_lay 3 = .ok (.ldc2_w 61, 3) := by decide +kernel
theorem dX5_lay_6 : decode cX5_lay 6 = .ok (.invokestatic 63, 3) := by decide +kernel
theorem dX5_lay_9 : decode cX5_lay 9 = .ok (.ifCond .ne 5, 3) := by decide +kernel
theorem dX5_lay_12 : decode cX5_lay 12 = .ok (.iconst (-1), 1) := by decide +kernel
theorem dX5_lay_13 : decode cX5_lay 13 = .ok (.ireturn, 1) := by decide +kernel
theorem dX5_lay_14 : decode cX5_lay 14 = .ok (.aload_n 0, 1) := by decide +kernel
theorem dX5_lay_15 : decode cX5_lay 15 = .ok (.getfield 7, 3) := by decide +kernel
theorem dX5_lay_18 : decode cX5_lay 18 = .ok (.iload_n 1, 1) := by decide +kernel
theorem dX5_lay_19 : decode cX5_lay 19 = .ok (.iaload, 1) := by decide +kernel
theorem dX5_lay_20 : decode cX5_lay 20 = .ok (.ifCond .ge 9, 3) := by decide +kernel
theorem dX5_lay_23 : decode cX5_lay 23 = .ok (.aload_n 0, 1) := by decide +kernel
theorem dX5_lay_24 : decode cX5_lay 24 = .ok (.iconst 1, 1) := by decide +kernel
theorem dX5_lay_25 : decode cX5_lay 25 = .ok (.invokevirtual 67, 3) := by decide +kernel
theorem dX5_lay_28 : decode cX5_lay 28 = .ok (.ireturn, 1) := by decide +kernel
theorem dX5_lay_29 : decode cX5_lay 29 = .ok (.iload_n 2, 1) := by decide +kernel
theorem dX5_lay_30 : decode cX5_lay 30 = .ok (.i2l, 1) := by decide +kernel
theorem dX5_lay_31 : decode cX5_lay 31 = .ok (.lconst 0, 1) := by decide +kernel
theorem dX5_lay_32 : decode cX5_lay 32 = .ok (.aload_n 0, 1) := by decide +kernel
theorem dX5_lay_33 : decode cX5_lay 33 = .ok (.getfield 7, 3) := by decide +kernel
theorem dX5_lay_36 : decode cX5_lay 36 = .ok (.iload_n 1, 1) := by decide +kernel
theorem dX5_lay_37 : decode cX5_lay 37 = .ok (.iaload, 1) := by decide +kernel
theorem dX5_lay_38 : decode cX5_lay 38 = .ok (.iconst 1, 1) := by decide +kernel
theorem dX5_lay_39 : decode cX5_lay 39 = .ok (.isub, 1) := by decide +kernel
theorem dX5_lay_40 : decode cX5_lay 40 = .ok (.i2l, 1) := by decide +kernel
theorem dX5_lay_41 : decode cX5_lay 41 = .ok (.invokestatic 63, 3) := by decide +kernel
theorem dX5_lay_44 : decode cX5_lay 44 = .ok (.ifCond .ne 9, 3) := by decide +kernel
theorem dX5_lay_47 : decode cX5_lay 47 = .ok (.aload_n 0, 1) := by decide +kernel
theorem dX5_lay_48 : decode cX5_lay 48 = .ok (.iconst 2, 1) := by decide +kernel
theorem dX5_lay_49 : decode cX5_lay 49 = .ok (.invokevirtual 67, 3) := by decide +kernel
theorem dX5_lay_52 : decode cX5_lay 52 = .ok (.ireturn, 1) := by decide +kernel
theorem dX5_lay_53 : decode cX5_lay 53 = .ok (.aload_n 0, 1) := by decide +kernel
theorem dX5_lay_54 : decode cX5_lay 54 = .ok (.aload_n 0, 1) := by decide +kernel
theorem dX5_lay_55 : decode cX5_lay 55 = .ok (.getfield 13, 3) := by decide +kernel
theorem dX5_lay_58 : decode cX5_lay 58 = .ok (.bipush 40, 2) := by decide +kernel
theorem dX5_lay_60 : decode cX5_lay 60 = .ok (.iload_n 1, 1) := by decide +kernel
theorem dX5_lay_61 : decode cX5_lay 61 = .ok (.imul, 1) := by decide +kernel
theorem dX5_lay_62 : decode cX5_lay 62 = .ok (.iload_n 2, 1) := by decide +kernel
theorem dX5_lay_63 : decode cX5_lay 63 = .ok (.iadd, 1) := by decide +kernel
theorem dX5_lay_64 : decode cX5_lay 64 = .ok (.iaload, 1) := by decide +kernel
theorem dX5_lay_65 : decode cX5_lay 65 = .ok (.putfield 75, 3) := by decide +kernel
theorem dX5_lay_68 : decode cX5_lay 68 = .ok (.aload_n 0, 1) := by decide +kernel
theorem dX5_lay_69 : decode cX5_lay 69 = .ok (.getfield 13, 3) := by decide +kernel
theorem dX5_lay_72 : decode cX5_lay 72 = .ok (.bipush 40, 2) := by decide +kernel
theorem dX5_lay_74 : decode cX5_lay 74 = .ok (.iload_n 1, 1) := by decide +kernel
theorem dX5_lay_75 : decode cX5_lay 75 = .ok (.imul, 1) := by decide +kernel
theorem dX5_lay_76 : decode cX5_lay 76 = .ok (.iload_n 2, 1) := by decide +kernel
theorem dX5_lay_77 : decode cX5_lay 77 = .ok (.iadd, 1) := by decide +kernel
theorem dX5_lay_78 : decode cX5_lay 78 = .ok (.iload_n 3, 1) := by decide +kernel
theorem dX5_lay_79 : decode cX5_lay 79 = .ok (.iastore, 1) := by decide +kernel
theorem dX5_lay_80 : decode cX5_lay 80 = .ok (.iconst 1, 1) := by decide +kernel
theorem dX5_lay_81 : decode cX5_lay 81 = .ok (.ireturn, 1) := by decide +kernel
theorem dX5_at_0 : decode cX5_at 0 = .ok (.iload_n 1, 1) := by decide +kernel
theorem dX5_at_1 : decode cX5_at 1 = .ok (.i2l, 1) := by decide +kernel
theorem dX5_at_2 : decode cX5_at 2 = .ok (.lconst 0, 1) := by decide +kernel
theorem dX5_at_3 : decode cX5_at 3 = .ok (.ldc2_w 61, 3) := by decide +kernel
theorem dX5_at_6 : decode cX5_at 6 = .ok (.invokestatic 63, 3) := by decide +kernel
theorem dX5_at_9 : decode cX5_at 9 = .ok (.ifCond .ne 5, 3) := by decide +kernel
theorem dX5_at_12 : decode cX5_at 12 = .ok (.iconst (-1), 1) := by decide +kernel
theorem dX5_at_13 : decode cX5_at 13 = .ok (.ireturn, 1) := by decide +kernel
theorem dX5_at_14 : decode cX5_at 14 = .ok (.aload_n 0, 1) := by decide +kernel
theorem dX5_at_15 : decode cX5_at 15 = .ok (.getfield 7, 3) := by decide +kernel
theorem dX5_at_18 : decode cX5_at 18 = .ok (.iload_n 1, 1) := by decide +kernel
theorem dX5_at_19 : decode cX5_at 19 = .ok (.iaload, 1) := by decide +kernel
theorem dX5_at_20 : decode cX5_at 20 = .ok (.ifCond .ge 9, 3) := by decide +kernel
theorem dX5_at_23 : decode cX5_at 23 = .ok (.aload_n 0, 1) := by decide +kernel
theorem dX5_at_24 : decode cX5_at 24 = .ok (.iconst 1, 1) := by decide +kernel
theorem dX5_at_25 : decode cX5_at 25 = .ok (.invokevirtual 67, 3) := by decide +kernel
theorem dX5_at_28 : decode cX5_at 28 = .ok (.ireturn, 1) := by decide +kernel
theorem dX5_at_29 : decode cX5_at 29 = .ok (.iload_n 2, 1) := by decide +kernel
theorem dX5_at_30 : decode cX5_at 30 = .ok (.i2l, 1) := by decide +kernel
theorem dX5_at_31 : decode cX5_at 31 = .ok (.lconst 0, 1) := by decide +kernel
theorem dX5_at_32 : decode cX5_at 32 = .ok (.aload_n 0, 1) := by decide +kernel
theorem dX5_at_33 : decode cX5_at 33 = .ok (.getfield 7, 3) := by decide +kernel
theorem dX5_at_36 : decode cX5_at 36 = .ok (.iload_n 1, 1) := by decide +kernel
theorem dX5_at_37 : decode cX5_at 37 = .ok (.iaload, 1) := by decide +kernel
theorem dX5_at_38 : decode cX5_at 38 = .ok (.iconst 1, 1) := by decide +kernel
theorem dX5_at_39 : decode cX5_at 39 = .ok (.isub, 1) := by decide +kernel
theorem dX5_at_40 : decode cX5_at 40 = .ok (.i2l, 1) := by decide +kernel
theorem dX5_at_41 : decode cX5_at 41 = .ok (.invokestatic 63, 3) := by decide +kernel
theorem dX5_at_44 : decode cX5_at 44 = .ok (.ifCond .ne 9, 3) := by decide +kernel
theorem dX5_at_47 : decode cX5_at 47 = .ok (.aload_n 0, 1) := by decide +kernel
theorem dX5_at_48 : decode cX5_at 48 = .ok (.iconst 2, 1) := by decide +kernel
theorem dX5_at_49 : decode cX5_at 49 = .ok (.invokevirtual 67, 3) := by decide +kernel
theorem dX5_at_52 : decode cX5_at 52 = .ok (.ireturn, 1) := by decide +kernel
theorem dX5_at_53 : decode cX5_at 53 = .ok (.aload_n 0, 1) := by decide +kernel
theorem dX5_at_54 : decode cX5_at 54 = .ok (.aload_n 0, 1) := by decide +kernel
theorem dX5_at_55 : decode cX5_at 55 = .ok (.getfield 13, 3) := by decide +kernel
theorem dX5_at_58 : decode cX5_at 58 = .ok (.bipush 40, 2) := by decide +kernel
theorem dX5_at_60 : decode cX5_at 60 = .ok (.iload_n 1, 1) := by decide +kernel
theorem dX5_at_61 : decode cX5_at 61 = .ok (.imul, 1) := by decide +kernel
theorem dX5_at_62 : decode cX5_at 62 = .ok (.iload_n 2, 1) := by decide +kernel
theorem dX5_at_63 : decode cX5_at 63 = .ok (.iadd, 1) := by decide +kernel
theorem dX5_at_64 : decode cX5_at 64 = .ok (.iaload, 1) := by decide +kernel
theorem dX5_at_65 : decode cX5_at 65 = .ok (.putfield 75, 3) := by decide +kernel
theorem dX5_at_68 : decode cX5_at 68 = .ok (.iconst 1, 1) := by decide +kernel
theorem dX5_at_69 : decode cX5_at 69 = .ok (.ireturn, 1) := by decide +kernel
theorem dX5_tear_0 : decode cX5_tear 0 = .ok (.iload_n 1, 1) := by decide +kernel
theorem dX5_tear_1 : decode cX5_tear 1 = .ok (.i2l, 1) := by decide +kernel
theorem dX5_tear_2 : decode cX5_tear 2 = .ok (.lconst 0, 1) := by decide +kernel
theorem dX5_tear_3 : decode cX5_tear 3 = .ok (.ldc2_w 61, 3) := by decide +kernel
theorem dX5_tear_6 : decode cX5_tear 6 = .ok (.invokestatic 63, 3) := by decide +kernel
theorem dX5_tear_9 : decode cX5_tear 9 = .ok (.ifCond .ne 5, 3) := by decide +kernel
theorem dX5_tear_12 : decode cX5_tear 12 = .ok (.iconst (-1), 1) := by decide +kernel
theorem dX5_tear_13 : decode cX5_tear 13 = .ok (.ireturn, 1) := by decide +kernel
theorem dX5_tear_14 : decode cX5_tear 14 = .ok (.aload_n 0, 1) := by decide +kernel
theorem dX5_tear_15 : decode cX5_tear 15 = .ok (.getfield 7, 3) := by decide +kernel
theorem dX5_tear_18 : decode cX5_tear 18 = .ok (.iload_n 1, 1) := by decide +kernel
theorem dX5_tear_19 : decode cX5_tear 19 = .ok (.iaload, 1) := by decide +kernel
theorem dX5_tear_20 : decode cX5_tear 20 = .ok (.ifCond .ge 9, 3) := by decide +kernel
theorem dX5_tear_23 : decode cX5_tear 23 = .ok (.aload_n 0, 1) := by decide +kernel
theorem dX5_tear_24 : decode cX5_tear 24 = .ok (.iconst 1, 1) := by decide +kernel
theorem dX5_tear_25 : decode cX5_tear 25 = .ok (.invokevirtual 67, 3) := by decide +kernel
theorem dX5_tear_28 : decode cX5_tear 28 = .ok (.ireturn, 1) := by decide +kernel
theorem dX5_tear_29 : decode cX5_tear 29 = .ok (.aload_n 0, 1) := by decide +kernel
theorem dX5_tear_30 : decode cX5_tear 30 = .ok (.getfield 7, 3) := by decide +kernel
theorem dX5_tear_33 : decode cX5_tear 33 = .ok (.iload_n 1, 1) := by decide +kernel
theorem dX5_tear_34 : decode cX5_tear 34 = .ok (.iconst (-1), 1) := by decide +kernel
theorem dX5_tear_35 : decode cX5_tear 35 = .ok (.iastore, 1) := by decide +kernel
theorem dX5_tear_36 : decode cX5_tear 36 = .ok (.iconst 1, 1) := by decide +kernel
theorem dX5_tear_37 : decode cX5_tear 37 = .ok (.ireturn, 1) := by decide +kernel
theorem dX5_copy_0 : decode cX5_copy 0 = .ok (.iload_n 1, 1) := by decide +kernel
theorem dX5_copy_1 : decode cX5_copy 1 = .ok (.i2l, 1) := by decide +kernel
theorem dX5_copy_2 : decode cX5_copy 2 = .ok (.lconst 0, 1) := by decide +kernel
theorem dX5_copy_3 : decode cX5_copy 3 = .ok (.ldc2_w 61, 3) := by decide +kernel
theorem dX5_copy_6 : decode cX5_copy 6 = .ok (.invokestatic 63, 3) := by decide +kernel
theorem dX5_copy_9 : decode cX5_copy 9 = .ok (.ifCond .eq 15, 3) := by decide +kernel
theorem dX5_copy_12 : decode cX5_copy 12 = .ok (.iload_n 3, 1) := by decide +kernel
theorem dX5_copy_13 : decode cX5_copy 13 = .ok (.i2l, 1) := by decide +kernel
theorem dX5_copy_14 : decode cX5_copy 14 = .ok (.lconst 0, 1) := by decide +kernel
theorem dX5_copy_15 : decode cX5_copy 15 = .ok (.ldc2_w 61, 3) := by decide +kernel
theorem dX5_copy_18 : decode cX5_copy 18 = .ok (.invokestatic 63, 3) := by decide +kernel
theorem dX5_copy_21 : decode cX5_copy 21 = .ok (.ifCond .ne 5, 3) := by decide +kernel
theorem dX5_copy_24 : decode cX5_copy 24 = .ok (.iconst (-1), 1) := by decide +kernel
theorem dX5_copy_25 : decode cX5_copy 25 = .ok (.ireturn, 1) := by decide +kernel
theorem dX5_copy_26 : decode cX5_copy 26 = .ok (.iload 5, 2) := by decide +kernel
theorem dX5_copy_28 : decode cX5_copy 28 = .ok (.ifCond .ge 9, 3) := by decide +kernel
theorem dX5_copy_31 : decode cX5_copy 31 = .ok (.aload_n 0, 1) := by decide +kernel
theorem dX5_copy_32 : decode cX5_copy 32 = .ok (.iconst 5, 1) := by decide +kernel
theorem dX5_copy_33 : decode cX5_copy 33 = .ok (.invokevirtual 67, 3) := by decide +kernel
theorem dX5_copy_36 : decode cX5_copy 36 = .ok (.ireturn, 1) := by decide +kernel
theorem dX5_copy_37 : decode cX5_copy 37 = .ok (.aload_n 0, 1) := by decide +kernel
theorem dX5_copy_38 : decode cX5_copy 38 = .ok (.getfield 7, 3) := by decide +kernel
theorem dX5_copy_41 : decode cX5_copy 41 = .ok (.iload_n 1, 1) := by decide +kernel
theorem dX5_copy_42 : decode cX5_copy 42 = .ok (.iaload, 1) := by decide +kernel
theorem dX5_copy_43 : decode cX5_copy 43 = .ok (.ifCond .lt 12, 3) := by decide +kernel
theorem dX5_copy_46 : decode cX5_copy 46 = .ok (.aload_n 0, 1) := by decide +kernel
theorem dX5_copy_47 : decode cX5_copy 47 = .ok (.getfield 7, 3) := by decide +kernel
theorem dX5_copy_50 : decode cX5_copy 50 = .ok (.iload_n 3, 1) := by decide +kernel
theorem dX5_copy_51 : decode cX5_copy 51 = .ok (.iaload, 1) := by decide +kernel
theorem dX5_copy_52 : decode cX5_copy 52 = .ok (.ifCond .ge 9, 3) := by decide +kernel
theorem dX5_copy_55 : decode cX5_copy 55 = .ok (.aload_n 0, 1) := by decide +kernel
theorem dX5_copy_56 : decode cX5_copy 56 = .ok (.iconst 1, 1) := by decide +kernel
theorem dX5_copy_57 : decode cX5_copy 57 = .ok (.invokevirtual 67, 3) := by decide +kernel
theorem dX5_copy_60 : decode cX5_copy 60 = .ok (.ireturn, 1) := by decide +kernel
theorem dX5_copy_61 : decode cX5_copy 61 = .ok (.iload_n 2, 1) := by decide +kernel
theorem dX5_copy_62 : decode cX5_copy 62 = .ok (.ifCond .lt 43, 3) := by decide +kernel
theorem dX5_copy_65 : decode cX5_copy 65 = .ok (.iload 4, 2) := by decide +kernel
theorem dX5_copy_67 : decode cX5_copy 67 = .ok (.ifCond .lt 38, 3) := by decide +kernel
theorem dX5_copy_70 : decode cX5_copy 70 = .ok (.iload_n 2, 1) := by decide +kernel
theorem dX5_copy_71 : decode cX5_copy 71 = .ok (.i2l, 1) := by decide +kernel
theorem dX5_copy_72 : decode cX5_copy 72 = .ok (.iload 5, 2) := by decide +kernel
theorem dX5_copy_74 : decode cX5_copy 74 = .ok (.i2l, 1) := by decide +kernel
theorem dX5_copy_75 : decode cX5_copy 75 = .ok (.ladd, 1) := by decide +kernel
theorem dX5_copy_76 : decode cX5_copy 76 = .ok (.aload_n 0, 1) := by decide +kernel
theorem dX5_copy_77 : decode cX5_copy 77 = .ok (.getfield 7, 3) := by decide +kernel
theorem dX5_copy_80 : decode cX5_copy 80 = .ok (.iload_n 1, 1) := by decide +kernel
theorem dX5_copy_81 : decode cX5_copy 81 = .ok (.iaload, 1) := by decide +kernel
theorem dX5_copy_82 : decode cX5_copy 82 = .ok (.i2l, 1) := by decide +kernel
theorem dX5_copy_83 : decode cX5_copy 83 = .ok (.lcmp, 1) := by decide +kernel
theorem dX5_copy_84 : decode cX5_copy 84 = .ok (.ifCond .gt 21, 3) := by decide +kernel
theorem dX5_copy_87 : decode cX5_copy 87 = .ok (.iload 4, 2) := by decide +kernel
theorem dX5_copy_89 : decode cX5_copy 89 = .ok (.i2l, 1) := by decide +kernel
theorem dX5_copy_90 : decode cX5_copy 90 = .ok (.iload 5, 2) := by decide +kernel
theorem dX5_copy_92 : decode cX5_copy 92 = .ok (.i2l, 1) := by decide +kernel
theorem dX5_copy_93 : decode cX5_copy 93 = .ok (.ladd, 1) := by decide +kernel
theorem dX5_copy_94 : decode cX5_copy 94 = .ok (.aload_n 0, 1) := by decide +kernel
theorem dX5_copy_95 : decode cX5_copy 95 = .ok (.getfield 7, 3) := by decide +kernel
theorem dX5_copy_98 : decode cX5_copy 98 = .ok (.iload_n 3, 1) := by decide +kernel
theorem dX5_copy_99 : decode cX5_copy 99 = .ok (.iaload, 1) := by decide +kernel
theorem dX5_copy_100 : decode cX5_copy 100 = .ok (.i2l, 1) := by decide +kernel
theorem dX5_copy_101 : decode cX5_copy 101 = .ok (.lcmp, 1) := by decide +kernel
theorem dX5_copy_102 : decode cX5_copy 102 = .ok (.ifCond .le 9, 3) := by decide +kernel
theorem dX5_copy_105 : decode cX5_copy 105 = .ok (.aload_n 0, 1) := by decide +kernel
theorem dX5_copy_106 : decode cX5_copy 106 = .ok (.iconst 2, 1) := by decide +kernel
theorem dX5_copy_107 : decode cX5_copy 107 = .ok (.invokevirtual 67, 3) := by decide +kernel
theorem dX5_copy_110 : decode cX5_copy 110 = .ok (.ireturn, 1) := by decide +kernel
theorem dX5_copy_111 : decode cX5_copy 111 = .ok (.iconst 0, 1) := by decide +kernel
theorem dX5_copy_112 : decode cX5_copy 112 = .ok (.istore 6, 2) := by decide +kernel
theorem dX5_copy_114 : decode cX5_copy 114 = .ok (.iload 6, 2) := by decide +kernel
theorem dX5_copy_116 : decode cX5_copy 116 = .ok (.iload 5, 2) := by decide +kernel
theorem dX5_copy_118 : decode cX5_copy 118 = .ok (.if_icmp .ge 58, 3) := by decide +kernel
theorem dX5_copy_121 : decode cX5_copy 121 = .ok (.iload 4, 2) := by decide +kernel
theorem dX5_copy_123 : decode cX5_copy 123 = .ok (.iload_n 2, 1) := by decide +kernel
theorem dX5_copy_124 : decode cX5_copy 124 = .ok (.if_icmp .le 13, 3) := by decide +kernel
theorem dX5_copy_127 : decode cX5_copy 127 = .ok (.iload 5, 2) := by decide +kernel
theorem dX5_copy_129 : decode cX5_copy 129 = .ok (.iconst 1, 1) := by decide +kernel
theorem dX5_copy_130 : decode cX5_copy 130 = .ok (.isub, 1) := by decide +kernel
theorem dX5_copy_131 : decode cX5_copy 131 = .ok (.iload 6, 2) := by decide +kernel
theorem dX5_copy_133 : decode cX5_copy 133 = .ok (.isub, 1) := by decide +kernel
theorem dX5_copy_134 : decode cX5_copy 134 = .ok (.goto 5, 3) := by decide +kernel
theorem dX5_copy_137 : decode cX5_copy 137 = .ok (.iload 6, 2) := by decide +kernel
theorem dX5_copy_139 : decode cX5_copy 139 = .ok (.istore 7, 2) := by decide +kernel
theorem dX5_copy_141 : decode cX5_copy 141 = .ok (.aload_n 0, 1) := by decide +kernel
theorem dX5_copy_142 : decode cX5_copy 142 = .ok (.getfield 13, 3) := by decide +kernel
theorem dX5_copy_145 : decode cX5_copy 145 = .ok (.bipush 40, 2) := by decide +kernel
theorem dX5_copy_147 : decode cX5_copy 147 = .ok (.iload_n 3, 1) := by decide +kernel
theorem dX5_copy_148 : decode cX5_copy 148 = .ok (.imul, 1) := by decide +kernel
theorem dX5_copy_149 : decode cX5_copy 149 = .ok (.iload 4, 2) := by decide +kernel
theorem dX5_copy_151 : decode cX5_copy 151 = .ok (.iadd, 1) := by decide +kernel
theorem dX5_copy_152 : decode cX5_copy 152 = .ok (.iload 7, 2) := by decide +kernel
theorem dX5_copy_154 : decode cX5_copy 154 = .ok (.iadd, 1) := by decide +kernel
theorem dX5_copy_155 : decode cX5_copy 155 = .ok (.aload_n 0, 1) := by decide +kernel
theorem dX5_copy_156 : decode cX5_copy 156 = .ok (.getfield 13, 3) := by decide +kernel
theorem dX5_copy_159 : decode cX5_copy 159 = .ok (.bipush 40, 2) := by decide +kernel
theorem dX5_copy_161 : decode cX5_copy 161 = .ok (.iload_n 1, 1) := by decide +kernel
theorem dX5_copy_162 : decode cX5_copy 162 = .ok (.imul, 1) := by decide +kernel
theorem dX5_copy_163 : decode cX5_copy 163 = .ok (.iload_n 2, 1) := by decide +kernel
theorem dX5_copy_164 : decode cX5_copy 164 = .ok (.iadd, 1) := by decide +kernel
theorem dX5_copy_165 : decode cX5_copy 165 = .ok (.iload 7, 2) := by decide +kernel
theorem dX5_copy_167 : decode cX5_copy 167 = .ok (.iadd, 1) := by decide +kernel
theorem dX5_copy_168 : decode cX5_copy 168 = .ok (.iaload, 1) := by decide +kernel
theorem dX5_copy_169 : decode cX5_copy 169 = .ok (.iastore, 1) := by decide +kernel
theorem dX5_copy_170 : decode cX5_copy 170 = .ok (.iinc 6 1, 3) := by decide +kernel
theorem dX5_copy_173 : decode cX5_copy 173 = .ok (.goto (-59), 3) := by decide +kernel
theorem dX5_copy_176 : decode cX5_copy 176 = .ok (.iconst 1, 1) := by decide +kernel
theorem dX5_copy_177 : decode cX5_copy 177 = .ok (.ireturn, 1) := by decide +kernel
theorem dX5_mean_0 : decode cX5_mean 0 = .ok (.iload_n 1, 1) := by decide +kernel
theorem dX5_mean_1 : decode cX5_mean 1 = .ok (.i2l, 1) := by decide +kernel
theorem dX5_mean_2 : decode cX5_mean 2 = .ok (.lconst 0, 1) := by decide +kernel
theorem dX5_mean_3 : decode cX5_mean 3 = .ok (.ldc2_w 61, 3) := by decide +kernel
theorem dX5_mean_6 : decode cX5_mean 6 = .ok (.invokestatic 63, 3) := by decide +kernel
theorem dX5_mean_9 : decode cX5_mean 9 = .ok (.ifCond .ne 5, 3) := by decide +kernel
theorem dX5_mean_12 : decode cX5_mean 12 = .ok (.iconst (-1), 1) := by decide +kernel
theorem dX5_mean_13 : decode cX5_mean 13 = .ok (.ireturn, 1) := by decide +kernel
theorem dX5_mean_14 : decode cX5_mean 14 = .ok (.aload_n 0, 1) := by decide +kernel
theorem dX5_mean_15 : decode cX5_mean 15 = .ok (.getfield 7, 3) := by decide +kernel
theorem dX5_mean_18 : decode cX5_mean 18 = .ok (.iload_n 1, 1) := by decide +kernel
theorem dX5_mean_19 : decode cX5_mean 19 = .ok (.iaload, 1) := by decide +kernel
theorem dX5_mean_20 : decode cX5_mean 20 = .ok (.ifCond .ge 9, 3) := by decide +kernel
theorem dX5_mean_23 : decode cX5_mean 23 = .ok (.aload_n 0, 1) := by decide +kernel
theorem dX5_mean_24 : decode cX5_mean 24 = .ok (.iconst 1, 1) := by decide +kernel
theorem dX5_mean_25 : decode cX5_mean 25 = .ok (.invokevirtual 67, 3) := by decide +kernel
theorem dX5_mean_28 : decode cX5_mean 28 = .ok (.ireturn, 1) := by decide +kernel
theorem dX5_mean_29 : decode cX5_mean 29 = .ok (.aload_n 0, 1) := by decide +kernel
theorem dX5_mean_30 : decode cX5_mean 30 = .ok (.getfield 7, 3) := by decide +kernel
theorem dX5_mean_33 : decode cX5_mean 33 = .ok (.iload_n 1, 1) := by decide +kernel
theorem dX5_mean_34 : decode cX5_mean 34 = .ok (.iaload, 1) := by decide +kernel
theorem dX5_mean_35 : decode cX5_mean 35 = .ok (.ifCond .ne 9, 3) := by decide +kernel
theorem dX5_mean_38 : decode cX5_mean 38 = .ok (.aload_n 0, 1) := by decide +kernel
theorem dX5_mean_39 : decode cX5_mean 39 = .ok (.iconst 4, 1) := by decide +kernel
theorem dX5_mean_40 : decode cX5_mean 40 = .ok (.invokevirtual 67, 3) := by decide +kernel
theorem dX5_mean_43 : decode cX5_mean 43 = .ok (.ireturn, 1) := by decide +kernel
theorem dX5_mean_44 : decode cX5_mean 44 = .ok (.lconst 0, 1) := by decide +kernel
theorem dX5_mean_45 : decode cX5_mean 45 = .ok (.lstore_n 2, 1) := by decide +kernel
theorem dX5_mean_46 : decode cX5_mean 46 = .ok (.iconst 0, 1) := by decide +kernel
theorem dX5_mean_47 : decode cX5_mean 47 = .ok (.istore 4, 2) := by decide +kernel
theorem dX5_mean_49 : decode cX5_mean 49 = .ok (.iload 4, 2) := by decide +kernel
theorem dX5_mean_51 : decode cX5_mean 51 = .ok (.aload_n 0, 1) := by decide +kernel
theorem dX5_mean_52 : decode cX5_mean 52 = .ok (.getfield 7, 3) := by decide +kernel
theorem dX5_mean_55 : decode cX5_mean 55 = .ok (.iload_n 1, 1) := by decide +kernel
theorem dX5_mean_56 : decode cX5_mean 56 = .ok (.iaload, 1) := by decide +kernel
theorem dX5_mean_57 : decode cX5_mean 57 = .ok (.if_icmp .ge 25, 3) := by decide +kernel
theorem dX5_mean_60 : decode cX5_mean 60 = .ok (.lload_n 2, 1) := by decide +kernel
theorem dX5_mean_61 : decode cX5_mean 61 = .ok (.aload_n 0, 1) := by decide +kernel
theorem dX5_mean_62 : decode cX5_mean 62 = .ok (.getfield 13, 3) := by decide +kernel
theorem dX5_mean_65 : decode cX5_mean 65 = .ok (.bipush 40, 2) := by decide +kernel
theorem dX5_mean_67 : decode cX5_mean 67 = .ok (.iload_n 1, 1) := by decide +kernel
theorem dX5_mean_68 : decode cX5_mean 68 = .ok (.imul, 1) := by decide +kernel
theorem dX5_mean_69 : decode cX5_mean 69 = .ok (.iload 4, 2) := by decide +kernel
theorem dX5_mean_71 : decode cX5_mean 71 = .ok (.iadd, 1) := by decide +kernel
theorem dX5_mean_72 : decode cX5_mean 72 = .ok (.iaload, 1) := by decide +kernel
theorem dX5_mean_73 : decode cX5_mean 73 = .ok (.i2l, 1) := by decide +kernel
theorem dX5_mean_74 : decode cX5_mean 74 = .ok (.ladd, 1) := by decide +kernel
theorem dX5_mean_75 : decode cX5_mean 75 = .ok (.lstore_n 2, 1) := by decide +kernel
theorem dX5_mean_76 : decode cX5_mean 76 = .ok (.iinc 4 1, 3) := by decide +kernel
theorem dX5_mean_79 : decode cX5_mean 79 = .ok (.goto (-30), 3) := by decide +kernel
theorem dX5_mean_82 : decode cX5_mean 82 = .ok (.aload_n 0, 1) := by decide +kernel
theorem dX5_mean_83 : decode cX5_mean 83 = .ok (.lload_n 2, 1) := by decide +kernel
theorem dX5_mean_84 : decode cX5_mean 84 = .ok (.aload_n 0, 1) := by decide +kernel
theorem dX5_mean_85 : decode cX5_mean 85 = .ok (.getfield 7, 3) := by decide +kernel
theorem dX5_mean_88 : decode cX5_mean 88 = .ok (.iload_n 1, 1) := by decide +kernel
theorem dX5_mean_89 : decode cX5_mean 89 = .ok (.iaload, 1) := by decide +kernel
theorem dX5_mean_90 : decode cX5_mean 90 = .ok (.i2l, 1) := by decide +kernel
theorem dX5_mean_91 : decode cX5_mean 91 = .ok (.ldiv, 1) := by decide +kernel
theorem dX5_mean_92 : decode cX5_mean 92 = .ok (.l2i, 1) := by decide +kernel
theorem dX5_mean_93 : decode cX5_mean 93 = .ok (.putfield 75, 3) := by decide +kernel
theorem dX5_mean_96 : decode cX5_mean 96 = .ok (.iconst 1, 1) := by decide +kernel
theorem dX5_mean_97 : decode cX5_mean 97 = .ok (.ireturn, 1) := by decide +kernel
theorem dX5_text_0 : decode cX5_text 0 = .ok (.iload_n 1, 1) := by decide +kernel
theorem dX5_text_1 : decode cX5_text 1 = .ok (.i2l, 1) := by decide +kernel
theorem dX5_text_2 : decode cX5_text 2 = .ok (.lconst 0, 1) := by decide +kernel
theorem dX5_text_3 : decode cX5_text 3 = .ok (.ldc2_w 78, 3) := by decide +kernel
theorem dX5_text_6 : decode cX5_text 6 = .ok (.invokestatic 63, 3) := by decide +kernel
theorem dX5_text_9 : decode cX5_text 9 = .ok (.ifCond .eq 9, 3) := by decide +kernel
theorem dX5_text_12 : decode cX5_text 12 = .ok (.iload_n 2, 1) := by decide +kernel
theorem dX5_text_13 : decode cX5_text 13 = .ok (.bipush 60, 2) := by decide +kernel
theorem dX5_text_15 : decode cX5_text 15 = .ok (.if_icmp .le 5, 3) := by decide +kernel
theorem dX5_text_18 : decode cX5_text 18 = .ok (.iconst (-1), 1) := by decide +kernel
theorem dX5_text_19 : decode cX5_text 19 = .ok (.ireturn, 1) := by decide +kernel
theorem dX5_text_20 : decode cX5_text 20 = .ok (.iload_n 2, 1) := by decide +kernel
theorem dX5_text_21 : decode cX5_text 21 = .ok (.ifCond .ge 9, 3) := by decide +kernel
theorem dX5_text_24 : decode cX5_text 24 = .ok (.aload_n 0, 1) := by decide +kernel
theorem dX5_text_25 : decode cX5_text 25 = .ok (.iconst 5, 1) := by decide +kernel
theorem dX5_text_26 : decode cX5_text 26 = .ok (.invokevirtual 67, 3) := by decide +kernel
theorem dX5_text_29 : decode cX5_text 29 = .ok (.ireturn, 1) := by decide +kernel
theorem dX5_text_30 : decode cX5_text 30 = .ok (.aload_n 0, 1) := by decide +kernel
theorem dX5_text_31 : decode cX5_text 31 = .ok (.getfield 16, 3) := by decide +kernel
theorem dX5_text_34 : decode cX5_text 34 = .ok (.iload_n 1, 1) := by decide +kernel
theorem dX5_text_35 : decode cX5_text 35 = .ok (.iload_n 2, 1) := by decide +kernel
theorem dX5_text_36 : decode cX5_text 36 = .ok (.iastore, 1) := by decide +kernel
theorem dX5_text_37 : decode cX5_text 37 = .ok (.iconst 0, 1) := by decide +kernel
theorem dX5_text_38 : decode cX5_text 38 = .ok (.istore_n 3, 1) := by decide +kernel
theorem dX5_text_39 : decode cX5_text 39 = .ok (.iload_n 3, 1) := by decide +kernel
theorem dX5_text_40 : decode cX5_text 40 = .ok (.iload_n 2, 1) := by decide +kernel
theorem dX5_text_41 : decode cX5_text 41 = .ok (.if_icmp .ge 22, 3) := by decide +kernel
theorem dX5_text_44 : decode cX5_text 44 = .ok (.aload_n 0, 1) := by decide +kernel
theorem dX5_text_45 : decode cX5_text 45 = .ok (.getfield 19, 3) := by decide +kernel
theorem dX5_text_48 : decode cX5_text 48 = .ok (.bipush 60, 2) := by decide +kernel
theorem dX5_text_50 : decode cX5_text 50 = .ok (.iload_n 1, 1) := by decide +kernel
theorem dX5_text_51 : decode cX5_text 51 = .ok (.imul, 1) := by decide +kernel
theorem dX5_text_52 : decode cX5_text 52 = .ok (.iload_n 3, 1) := by decide +kernel
theorem dX5_text_53 : decode cX5_text 53 = .ok (.iadd, 1) := by decide +kernel
theorem dX5_text_54 : decode cX5_text 54 = .ok (.bipush 32, 2) := by decide +kernel
theorem dX5_text_56 : decode cX5_text 56 = .ok (.bastore, 1) := by decide +kernel
theorem dX5_text_57 : decode cX5_text 57 = .ok (.iinc 3 1, 3) := by decide +kernel
theorem dX5_text_60 : decode cX5_text 60 = .ok (.goto (-21), 3) := by decide +kernel
theorem dX5_text_63 : decode cX5_text 63 = .ok (.iload_n 2, 1) := by decide +kernel
theorem dX5_text_64 : decode cX5_text 64 = .ok (.ireturn, 1) := by decide +kernel
theorem dX5_put_0 : decode cX5_put 0 = .ok (.iload_n 1, 1) := by decide +kernel
theorem dX5_put_1 : decode cX5_put 1 = .ok (.i2l, 1) := by decide +kernel
theorem dX5_put_2 : decode cX5_put 2 = .ok (.lconst 0, 1) := by decide +kernel
theorem dX5_put_3 : decode cX5_put 3 = .ok (.ldc2_w 78, 3) := by decide +kernel
theorem dX5_put_6 : decode cX5_put 6 = .ok (.invokestatic 63, 3) := by decide +kernel
theorem dX5_put_9 : decode cX5_put 9 = .ok (.ifCond .ne 5, 3) := by decide +kernel
theorem dX5_put_12 : decode cX5_put 12 = .ok (.iconst (-1), 1) := by decide +kernel
theorem dX5_put_13 : decode cX5_put 13 = .ok (.ireturn, 1) := by decide +kernel
theorem dX5_put_14 : decode cX5_put 14 = .ok (.aload_n 0, 1) := by decide +kernel
theorem dX5_put_15 : decode cX5_put 15 = .ok (.getfield 16, 3) := by decide +kernel
theorem dX5_put_18 : decode cX5_put 18 = .ok (.iload_n 1, 1) := by decide +kernel
theorem dX5_put_19 : decode cX5_put 19 = .ok (.iaload, 1) := by decide +kernel
theorem dX5_put_20 : decode cX5_put 20 = .ok (.ifCond .ge 9, 3) := by decide +kernel
theorem dX5_put_23 : decode cX5_put 23 = .ok (.aload_n 0, 1) := by decide +kernel
theorem dX5_put_24 : decode cX5_put 24 = .ok (.iconst 1, 1) := by decide +kernel
theorem dX5_put_25 : decode cX5_put 25 = .ok (.invokevirtual 67, 3) := by decide +kernel
theorem dX5_put_28 : decode cX5_put 28 = .ok (.ireturn, 1) := by decide +kernel
theorem dX5_put_29 : decode cX5_put 29 = .ok (.iload_n 2, 1) := by decide +kernel
theorem dX5_put_30 : decode cX5_put 30 = .ok (.i2l, 1) := by decide +kernel
theorem dX5_put_31 : decode cX5_put 31 = .ok (.lconst 0, 1) := by decide +kernel
theorem dX5_put_32 : decode cX5_put 32 = .ok (.aload_n 0, 1) := by decide +kernel
theorem dX5_put_33 : decode cX5_put 33 = .ok (.getfield 16, 3) := by decide +kernel
theorem dX5_put_36 : decode cX5_put 36 = .ok (.iload_n 1, 1) := by decide +kernel
theorem dX5_put_37 : decode cX5_put 37 = .ok (.iaload, 1) := by decide +kernel
theorem dX5_put_38 : decode cX5_put 38 = .ok (.iconst 1, 1) := by decide +kernel
theorem dX5_put_39 : decode cX5_put 39 = .ok (.isub, 1) := by decide +kernel
theorem dX5_put_40 : decode cX5_put 40 = .ok (.i2l, 1) := by decide +kernel
theorem dX5_put_41 : decode cX5_put 41 = .ok (.invokestatic 63, 3) := by decide +kernel
theorem dX5_put_44 : decode cX5_put 44 = .ok (.ifCond .ne 9, 3) := by decide +kernel
theorem dX5_put_47 : decode cX5_put 47 = .ok (.aload_n 0, 1) := by decide +kernel
theorem dX5_put_48 : decode cX5_put 48 = .ok (.iconst 2, 1) := by decide +kernel
theorem dX5_put_49 : decode cX5_put 49 = .ok (.invokevirtual 67, 3) := by decide +kernel
theorem dX5_put_52 : decode cX5_put 52 = .ok (.ireturn, 1) := by decide +kernel
theorem dX5_put_53 : decode cX5_put 53 = .ok (.aload_n 0, 1) := by decide +kernel
theorem dX5_put_54 : decode cX5_put 54 = .ok (.getfield 19, 3) := by decide +kernel
theorem dX5_put_57 : decode cX5_put 57 = .ok (.bipush 60, 2) := by decide +kernel
theorem dX5_put_59 : decode cX5_put 59 = .ok (.iload_n 1, 1) := by decide +kernel
theorem dX5_put_60 : decode cX5_put 60 = .ok (.imul, 1) := by decide +kernel
theorem dX5_put_61 : decode cX5_put 61 = .ok (.iload_n 2, 1) := by decide +kernel
theorem dX5_put_62 : decode cX5_put 62 = .ok (.iadd, 1) := by decide +kernel
theorem dX5_put_63 : decode cX5_put 63 = .ok (.baload, 1) := by decide +kernel
theorem dX5_put_64 : decode cX5_put 64 = .ok (.istore 4, 2) := by decide +kernel
theorem dX5_put_66 : decode cX5_put 66 = .ok (.aload_n 0, 1) := by decide +kernel
theorem dX5_put_67 : decode cX5_put 67 = .ok (.getfield 19, 3) := by decide +kernel
theorem dX5_put_70 : decode cX5_put 70 = .ok (.bipush 60, 2) := by decide +kernel
theorem dX5_put_72 : decode cX5_put 72 = .ok (.iload_n 1, 1) := by decide +kernel
theorem dX5_put_73 : decode cX5_put 73 = .ok (.imul, 1) := by decide +kernel
theorem dX5_put_74 : decode cX5_put 74 = .ok (.iload_n 2, 1) := by decide +kernel
theorem dX5_put_75 : decode cX5_put 75 = .ok (.iadd, 1) := by decide +kernel
theorem dX5_put_76 : decode cX5_put 76 = .ok (.iload_n 3, 1) := by decide +kernel
theorem dX5_put_77 : decode cX5_put 77 = .ok (.i2b, 1) := by decide +kernel
theorem dX5_put_78 : decode cX5_put 78 = .ok (.bastore, 1) := by decide +kernel
theorem dX5_put_79 : decode cX5_put 79 = .ok (.iload 4, 2) := by decide +kernel
theorem dX5_put_81 : decode cX5_put 81 = .ok (.sipush 1000, 3) := by decide +kernel
theorem dX5_put_84 : decode cX5_put 84 = .ok (.iadd, 1) := by decide +kernel
theorem dX5_put_85 : decode cX5_put 85 = .ok (.ireturn, 1) := by decide +kernel
theorem dX5_byteAt_0 : decode cX5_byteAt 0 = .ok (.iload_n 2, 1) := by decide +kernel
theorem dX5_byteAt_1 : decode cX5_byteAt 1 = .ok (.aload_n 0, 1) := by decide +kernel
theorem dX5_byteAt_2 : decode cX5_byteAt 2 = .ok (.getfield 16, 3) := by decide +kernel
theorem dX5_byteAt_5 : decode cX5_byteAt 5 = .ok (.iload_n 1, 1) := by decide +kernel
theorem dX5_byteAt_6 : decode cX5_byteAt 6 = .ok (.iaload, 1) := by decide +kernel
theorem dX5_byteAt_7 : decode cX5_byteAt 7 = .ok (.if_icmp .ge 17, 3) := by decide +kernel
theorem dX5_byteAt_10 : decode cX5_byteAt 10 = .ok (.aload_n 0, 1) := by decide +kernel
theorem dX5_byteAt_11 : decode cX5_byteAt 11 = .ok (.getfield 19, 3) := by decide +kernel
theorem dX5_byteAt_14 : decode cX5_byteAt 14 = .ok (.bipush 60, 2) := by decide +kernel
theorem dX5_byteAt_16 : decode cX5_byteAt 16 = .ok (.iload_n 1, 1) := by decide +kernel
theorem dX5_byteAt_17 : decode cX5_byteAt 17 = .ok (.imul, 1) := by decide +kernel
theorem dX5_byteAt_18 : decode cX5_byteAt 18 = .ok (.iload_n 2, 1) := by decide +kernel
theorem dX5_byteAt_19 : decode cX5_byteAt 19 = .ok (.iadd, 1) := by decide +kernel
theorem dX5_byteAt_20 : decode cX5_byteAt 20 = .ok (.baload, 1) := by decide +kernel
theorem dX5_byteAt_21 : decode cX5_byteAt 21 = .ok (.goto 4, 3) := by decide +kernel
theorem dX5_byteAt_24 : decode cX5_byteAt 24 = .ok (.iconst (-1), 1) := by decide +kernel
theorem dX5_byteAt_25 : decode cX5_byteAt 25 = .ok (.ireturn, 1) := by decide +kernel
theorem dX5_kindOf_0 : decode cX5_kindOf 0 = .ok (.iload_n 0, 1) := by decide +kernel
theorem dX5_kindOf_1 : decode cX5_kindOf 1 = .ok (.bipush 100, 2) := by decide +kernel
theorem dX5_kindOf_3 : decode cX5_kindOf 3 = .ok (.if_icmp .ne 7, 3) := by decide +kernel
theorem dX5_kindOf_6 : decode cX5_kindOf 6 = .ok (.iconst 0, 1) := by decide +kernel
theorem dX5_kindOf_7 : decode cX5_kindOf 7 = .ok (.goto 55, 3) := by decide +kernel
theorem dX5_kindOf_10 : decode cX5_kindOf 10 = .ok (.iload_n 0, 1) := by decide +kernel
theorem dX5_kindOf_11 : decode cX5_kindOf 11 = .ok (.bipush 102, 2) := by decide +kernel
theorem dX5_kindOf_13 : decode cX5_kindOf 13 = .ok (.if_icmp .ne 7, 3) := by decide +kernel
theorem dX5_kindOf_16 : decode cX5_kindOf 16 = .ok (.iconst 1, 1) := by decide +kernel
theorem dX5_kindOf_17 : decode cX5_kindOf 17 = .ok (.goto 45, 3) := by decide +kernel
theorem dX5_kindOf_20 : decode cX5_kindOf 20 = .ok (.iload_n 0, 1) := by decide +kernel
theorem dX5_kindOf_21 : decode cX5_kindOf 21 = .ok (.bipush 114, 2) := by decide +kernel
theorem dX5_kindOf_23 : decode cX5_kindOf 23 = .ok (.if_icmp .ne 7, 3) := by decide +kernel
theorem dX5_kindOf_26 : decode cX5_kindOf 26 = .ok (.iconst 2, 1) := by decide +kernel
theorem dX5_kindOf_27 : decode cX5_kindOf 27 = .ok (.goto 35, 3) := by decide +kernel
theorem dX5_kindOf_30 : decode cX5_kindOf 30 = .ok (.iload_n 0, 1) := by decide +kernel
theorem dX5_kindOf_31 : decode cX5_kindOf 31 = .ok (.bipush 112, 2) := by decide +kernel
theorem dX5_kindOf_33 : decode cX5_kindOf 33 = .ok (.if_icmp .ne 7, 3) := by decide +kernel
theorem dX5_kindOf_36 : decode cX5_kindOf 36 = .ok (.iconst 3, 1) := by decide +kernel
theorem dX5_kindOf_37 : decode cX5_kindOf 37 = .ok (.goto 25, 3) := by decide +kernel
theorem dX5_kindOf_40 : decode cX5_kindOf 40 = .ok (.iload_n 0, 1) := by decide +kernel
theorem dX5_kindOf_41 : decode cX5_kindOf 41 = .ok (.bipush 101, 2) := by decide +kernel
theorem dX5_kindOf_43 : decode cX5_kindOf 43 = .ok (.if_icmp .ne 7, 3) := by decide +kernel
theorem dX5_kindOf_46 : decode cX5_kindOf 46 = .ok (.iconst 4, 1) := by decide +kernel
theorem dX5_kindOf_47 : decode cX5_kindOf 47 = .ok (.goto 15, 3) := by decide +kernel
theorem dX5_kindOf_50 : decode cX5_kindOf 50 = .ok (.iload_n 0, 1) := by decide +kernel
theorem dX5_kindOf_51 : decode cX5_kindOf 51 = .ok (.bipush 104, 2) := by decide +kernel
theorem dX5_kindOf_53 : decode cX5_kindOf 53 = .ok (.if_icmp .ne 7, 3) := by decide +kernel
theorem dX5_kindOf_56 : decode cX5_kindOf 56 = .ok (.iconst 5, 1) := by decide +kernel
theorem dX5_kindOf_57 : decode cX5_kindOf 57 = .ok (.goto 5, 3) := by decide +kernel
theorem dX5_kindOf_60 : decode cX5_kindOf 60 = .ok (.bipush (-9), 2) := by decide +kernel
theorem dX5_kindOf_62 : decode cX5_kindOf 62 = .ok (.ireturn, 1) := by decide +kernel
theorem dX5_reads_0 : decode cX5_reads 0 = .ok (.aload_n 0, 1) := by decide +kernel
theorem dX5_reads_1 : decode cX5_reads 1 = .ok (.iconst 0, 1) := by decide +kernel
theorem dX5_reads_2 : decode cX5_reads 2 = .ok (.putfield 80, 3) := by decide +kernel
theorem dX5_reads_5 : decode cX5_reads 5 = .ok (.iconst 0, 1) := by decide +kernel
theorem dX5_reads_6 : decode cX5_reads 6 = .ok (.istore_n 2, 1) := by decide +kernel
theorem dX5_reads_7 : decode cX5_reads 7 = .ok (.iload_n 2, 1) := by decide +kernel
theorem dX5_reads_8 : decode cX5_reads 8 = .ok (.aload_n 0, 1) := by decide +kernel
theorem dX5_reads_9 : decode cX5_reads 9 = .ok (.getfield 16, 3) := by decide +kernel
theorem dX5_reads_12 : decode cX5_reads 12 = .ok (.iload_n 1, 1) := by decide +kernel
theorem dX5_reads_13 : decode cX5_reads 13 = .ok (.iaload, 1) := by decide +kernel
theorem dX5_reads_14 : decode cX5_reads 14 = .ok (.if_icmp .ge 167, 3) := by decide +kernel
theorem dX5_reads_17 : decode cX5_reads 17 = .ok (.aload_n 0, 1) := by decide +kernel
theorem dX5_reads_18 : decode cX5_reads 18 = .ok (.iload_n 1, 1) := by decide +kernel
theorem dX5_reads_19 : decode cX5_reads 19 = .ok (.iload_n 2, 1) := by decide +kernel
theorem dX5_reads_20 : decode cX5_reads 20 = .ok (.invokevirtual 83, 3) := by decide +kernel
theorem dX5_reads_23 : decode cX5_reads 23 = .ok (.bipush 32, 2) := by decide +kernel
theorem dX5_reads_25 : decode cX5_reads 25 = .ok (.if_icmp .ne 9, 3) := by decide +kernel
theorem dX5_reads_28 : decode cX5_reads 28 = .ok (.iinc 2 1, 3) := by decide +kernel
theorem dX5_reads_31 : decode cX5_reads 31 = .ok (.goto (-24), 3) := by decide +kernel
theorem dX5_reads_34 : decode cX5_reads 34 = .ok (.aload_n 0, 1) := by decide +kernel
theorem dX5_reads_35 : decode cX5_reads 35 = .ok (.iload_n 1, 1) := by decide +kernel
theorem dX5_reads_36 : decode cX5_reads 36 = .ok (.iload_n 2, 1) := by decide +kernel
theorem dX5_reads_37 : decode cX5_reads 37 = .ok (.invokevirtual 83, 3) := by decide +kernel
theorem dX5_reads_40 : decode cX5_reads 40 = .ok (.invokestatic 87, 3) := by decide +kernel
theorem dX5_reads_43 : decode cX5_reads 43 = .ok (.ifCond .lt 12, 3) := by decide +kernel
theorem dX5_reads_46 : decode cX5_reads 46 = .ok (.aload_n 0, 1) := by decide +kernel
theorem dX5_reads_47 : decode cX5_reads 47 = .ok (.getfield 80, 3) := by decide +kernel
theorem dX5_reads_50 : decode cX5_reads 50 = .ok (.bipush 9, 2) := by decide +kernel
theorem dX5_reads_52 : decode cX5_reads 52 = .ok (.if_icmp .ne 5, 3) := by decide +kernel
theorem dX5_reads_55 : decode cX5_reads 55 = .ok (.iload_n 2, 1) := by decide +kernel
theorem dX5_reads_56 : decode cX5_reads 56 = .ok (.ireturn, 1) := by decide +kernel
theorem dX5_reads_57 : decode cX5_reads 57 = .ok (.aload_n 0, 1) := by decide +kernel
theorem dX5_reads_58 : decode cX5_reads 58 = .ok (.iload_n 1, 1) := by decide +kernel
theorem dX5_reads_59 : decode cX5_reads 59 = .ok (.iload_n 2, 1) := by decide +kernel
theorem dX5_reads_60 : decode cX5_reads 60 = .ok (.iconst 1, 1) := by decide +kernel
theorem dX5_reads_61 : decode cX5_reads 61 = .ok (.iadd, 1) := by decide +kernel
theorem dX5_reads_62 : decode cX5_reads 62 = .ok (.invokevirtual 83, 3) := by decide +kernel
theorem dX5_reads_65 : decode cX5_reads 65 = .ok (.i2l, 1) := by decide +kernel
theorem dX5_reads_66 : decode cX5_reads 66 = .ok (.ldc2_w 90, 3) := by decide +kernel
theorem dX5_reads_69 : decode cX5_reads 69 = .ok (.ldc2_w 92, 3) := by decide +kernel
theorem dX5_reads_72 : decode cX5_reads 72 = .ok (.invokestatic 63, 3) := by decide +kernel
theorem dX5_reads_75 : decode cX5_reads 75 = .ok (.ifCond .ne 7, 3) := by decide +kernel
theorem dX5_reads_78 : decode cX5_reads 78 = .ok (.iload_n 2, 1) := by decide +kernel
theorem dX5_reads_79 : decode cX5_reads 79 = .ok (.iconst 1, 1) := by decide +kernel
theorem dX5_reads_80 : decode cX5_reads 80 = .ok (.iadd, 1) := by decide +kernel
theorem dX5_reads_81 : decode cX5_reads 81 = .ok (.ireturn, 1) := by decide +kernel
theorem dX5_reads_82 : decode cX5_reads 82 = .ok (.aload_n 0, 1) := by decide +kernel
theorem dX5_reads_83 : decode cX5_reads 83 = .ok (.iload_n 1, 1) := by decide +kernel
theorem dX5_reads_84 : decode cX5_reads 84 = .ok (.iload_n 2, 1) := by decide +kernel
theorem dX5_reads_85 : decode cX5_reads 85 = .ok (.iconst 2, 1) := by decide +kernel
theorem dX5_reads_86 : decode cX5_reads 86 = .ok (.iadd, 1) := by decide +kernel
theorem dX5_reads_87 : decode cX5_reads 87 = .ok (.invokevirtual 83, 3) := by decide +kernel
theorem dX5_reads_90 : decode cX5_reads 90 = .ok (.i2l, 1) := by decide +kernel
theorem dX5_reads_91 : decode cX5_reads 91 = .ok (.ldc2_w 90, 3) := by decide +kernel
theorem dX5_reads_94 : decode cX5_reads 94 = .ok (.ldc2_w 92, 3) := by decide +kernel
theorem dX5_reads_97 : decode cX5_reads 97 = .ok (.invokestatic 63, 3) := by decide +kernel
theorem dX5_reads_100 : decode cX5_reads 100 = .ok (.ifCond .ne 7, 3) := by decide +kernel
theorem dX5_reads_103 : decode cX5_reads 103 = .ok (.iload_n 2, 1) := by decide +kernel
theorem dX5_reads_104 : decode cX5_reads 104 = .ok (.iconst 2, 1) := by decide +kernel
theorem dX5_reads_105 : decode cX5_reads 105 = .ok (.iadd, 1) := by decide +kernel
theorem dX5_reads_106 : decode cX5_reads 106 = .ok (.ireturn, 1) := by decide +kernel
theorem dX5_reads_107 : decode cX5_reads 107 = .ok (.aload_n 0, 1) := by decide +kernel
theorem dX5_reads_108 : decode cX5_reads 108 = .ok (.getfield 32, 3) := by decide +kernel
theorem dX5_reads_111 : decode cX5_reads 111 = .ok (.aload_n 0, 1) := by decide +kernel
theorem dX5_reads_112 : decode cX5_reads 112 = .ok (.getfield 80, 3) := by decide +kernel
theorem dX5_reads_115 : decode cX5_reads 115 = .ok (.aload_n 0, 1) := by decide +kernel
theorem dX5_reads_116 : decode cX5_reads 116 = .ok (.iload_n 1, 1) := by decide +kernel
theorem dX5_reads_117 : decode cX5_reads 117 = .ok (.iload_n 2, 1) := by decide +kernel
theorem dX5_reads_118 : decode cX5_reads 118 = .ok (.invokevirtual 83, 3) := by decide +kernel
theorem dX5_reads_121 : decode cX5_reads 121 = .ok (.invokestatic 87, 3) := by decide +kernel
theorem dX5_reads_124 : decode cX5_reads 124 = .ok (.iastore, 1) := by decide +kernel
theorem dX5_reads_125 : decode cX5_reads 125 = .ok (.aload_n 0, 1) := by decide +kernel
theorem dX5_reads_126 : decode cX5_reads 126 = .ok (.getfield 35, 3) := by decide +kernel
theorem dX5_reads_129 : decode cX5_reads 129 = .ok (.aload_n 0, 1) := by decide +kernel
theorem dX5_reads_130 : decode cX5_reads 130 = .ok (.getfield 80, 3) := by decide +kernel
theorem dX5_reads_133 : decode cX5_reads 133 = .ok (.aload_n 0, 1) := by decide +kernel
theorem dX5_reads_134 : decode cX5_reads 134 = .ok (.iload_n 1, 1) := by decide +kernel
theorem dX5_reads_135 : decode cX5_reads 135 = .ok (.iload_n 2, 1) := by decide +kernel
theorem dX5_reads_136 : decode cX5_reads 136 = .ok (.iconst 1, 1) := by decide +kernel
theorem dX5_reads_137 : decode cX5_reads 137 = .ok (.iadd, 1) := by decide +kernel
theorem dX5_reads_138 : decode cX5_reads 138 = .ok (.invokevirtual 83, 3) := by decide +kernel
theorem dX5_reads_141 : decode cX5_reads 141 = .ok (.bipush 48, 2) := by decide +kernel
theorem dX5_reads_143 : decode cX5_reads 143 = .ok (.isub, 1) := by decide +kernel
theorem dX5_reads_144 : decode cX5_reads 144 = .ok (.iastore, 1) := by decide +kernel
theorem dX5_reads_145 : decode cX5_reads 145 = .ok (.aload_n 0, 1) := by decide +kernel
theorem dX5_reads_146 : decode cX5_reads 146 = .ok (.getfield 38, 3) := by decide +kernel
theorem dX5_reads_149 : decode cX5_reads 149 = .ok (.aload_n 0, 1) := by decide +kernel
theorem dX5_reads_150 : decode cX5_reads 150 = .ok (.getfield 80, 3) := by decide +kernel
theorem dX5_reads_153 : decode cX5_reads 153 = .ok (.aload_n 0, 1) := by decide +kernel
theorem dX5_reads_154 : decode cX5_reads 154 = .ok (.iload_n 1, 1) := by decide +kernel
theorem dX5_reads_155 : decode cX5_reads 155 = .ok (.iload_n 2, 1) := by decide +kernel
theorem dX5_reads_156 : decode cX5_reads 156 = .ok (.iconst 2, 1) := by decide +kernel
theorem dX5_reads_157 : decode cX5_reads 157 = .ok (.iadd, 1) := by decide +kernel
theorem dX5_reads_158 : decode cX5_reads 158 = .ok (.invokevirtual 83, 3) := by decide +kernel
theorem dX5_reads_161 : decode cX5_reads 161 = .ok (.bipush 48, 2) := by decide +kernel
theorem dX5_reads_163 : decode cX5_reads 163 = .ok (.isub, 1) := by decide +kernel
theorem dX5_reads_164 : decode cX5_reads 164 = .ok (.iastore, 1) := by decide +kernel
theorem dX5_reads_165 : decode cX5_reads 165 = .ok (.aload_n 0, 1) := by decide +kernel
theorem dX5_reads_166 : decode cX5_reads 166 = .ok (.dup, 1) := by decide +kernel
theorem dX5_reads_167 : decode cX5_reads 167 = .ok (.getfield 80, 3) := by decide +kernel
theorem dX5_reads_170 : decode cX5_reads 170 = .ok (.iconst 1, 1) := by decide +kernel
theorem dX5_reads_171 : decode cX5_reads 171 = .ok (.iadd, 1) := by decide +kernel
theorem dX5_reads_172 : decode cX5_reads 172 = .ok (.putfield 80, 3) := by decide +kernel
theorem dX5_reads_175 : decode cX5_reads 175 = .ok (.iinc 2 3, 3) := by decide +kernel
theorem dX5_reads_178 : decode cX5_reads 178 = .ok (.goto (-171), 3) := by decide +kernel
theorem dX5_reads_181 : decode cX5_reads 181 = .ok (.aload_n 0, 1) := by decide +kernel
theorem dX5_reads_182 : decode cX5_reads 182 = .ok (.getfield 80, 3) := by decide +kernel
theorem dX5_reads_185 : decode cX5_reads 185 = .ok (.iconst 2, 1) := by decide +kernel
theorem dX5_reads_186 : decode cX5_reads 186 = .ok (.if_icmp .ge 12, 3) := by decide +kernel
theorem dX5_reads_189 : decode cX5_reads 189 = .ok (.aload_n 0, 1) := by decide +kernel
theorem dX5_reads_190 : decode cX5_reads 190 = .ok (.getfield 16, 3) := by decide +kernel
theorem dX5_reads_193 : decode cX5_reads 193 = .ok (.iload_n 1, 1) := by decide +kernel
theorem dX5_reads_194 : decode cX5_reads 194 = .ok (.iaload, 1) := by decide +kernel
theorem dX5_reads_195 : decode cX5_reads 195 = .ok (.goto 5, 3) := by decide +kernel
theorem dX5_reads_198 : decode cX5_reads 198 = .ok (.bipush (-9), 2) := by decide +kernel
theorem dX5_reads_200 : decode cX5_reads 200 = .ok (.ireturn, 1) := by decide +kernel
theorem dX5_fault_0 : decode cX5_fault 0 = .ok (.iload_n 1, 1) := by decide +kernel
theorem dX5_fault_1 : decode cX5_fault 1 = .ok (.i2l, 1) := by decide +kernel
theorem dX5_fault_2 : decode cX5_fault 2 = .ok (.lconst 0, 1) := by decide +kernel
theorem dX5_fault_3 : decode cX5_fault 3 = .ok (.ldc2_w 78, 3) := by decide +kernel
theorem dX5_fault_6 : decode cX5_fault 6 = .ok (.invokestatic 63, 3) := by decide +kernel
theorem dX5_fault_9 : decode cX5_fault 9 = .ok (.ifCond .ne 5, 3) := by decide +kernel
theorem dX5_fault_12 : decode cX5_fault 12 = .ok (.iconst (-1), 1) := by decide +kernel
theorem dX5_fault_13 : decode cX5_fault 13 = .ok (.ireturn, 1) := by decide +kernel
theorem dX5_fault_14 : decode cX5_fault 14 = .ok (.aload_n 0, 1) := by decide +kernel
theorem dX5_fault_15 : decode cX5_fault 15 = .ok (.getfield 16, 3) := by decide +kernel
theorem dX5_fault_18 : decode cX5_fault 18 = .ok (.iload_n 1, 1) := by decide +kernel
theorem dX5_fault_19 : decode cX5_fault 19 = .ok (.iaload, 1) := by decide +kernel
theorem dX5_fault_20 : decode cX5_fault 20 = .ok (.ifCond .ge 11, 3) := by decide +kernel
theorem dX5_fault_23 : decode cX5_fault 23 = .ok (.aload_n 0, 1) := by decide +kernel
theorem dX5_fault_24 : decode cX5_fault 24 = .ok (.iconst 1, 1) := by decide +kernel
theorem dX5_fault_25 : decode cX5_fault 25 = .ok (.invokevirtual 67, 3) := by decide +kernel
theorem dX5_fault_28 : decode cX5_fault 28 = .ok (.goto 8, 3) := by decide +kernel
theorem dX5_fault_31 : decode cX5_fault 31 = .ok (.aload_n 0, 1) := by decide +kernel
theorem dX5_fault_32 : decode cX5_fault 32 = .ok (.iload_n 1, 1) := by decide +kernel
theorem dX5_fault_33 : decode cX5_fault 33 = .ok (.invokevirtual 94, 3) := by decide +kernel
theorem dX5_fault_36 : decode cX5_fault 36 = .ok (.ireturn, 1) := by decide +kernel
theorem dX5_leat_0 : decode cX5_leat 0 = .ok (.iload_n 1, 1) := by decide +kernel
theorem dX5_leat_1 : decode cX5_leat 1 = .ok (.i2l, 1) := by decide +kernel
theorem dX5_leat_2 : decode cX5_leat 2 = .ok (.lconst 0, 1) := by decide +kernel
theorem dX5_leat_3 : decode cX5_leat 3 = .ok (.ldc2_w 78, 3) := by decide +kernel
theorem dX5_leat_6 : decode cX5_leat 6 = .ok (.invokestatic 63, 3) := by decide +kernel
theorem dX5_leat_9 : decode cX5_leat 9 = .ok (.ifCond .ne 5, 3) := by decide +kernel
theorem dX5_leat_12 : decode cX5_leat 12 = .ok (.iconst (-1), 1) := by decide +kernel
theorem dX5_leat_13 : decode cX5_leat 13 = .ok (.ireturn, 1) := by decide +kernel
theorem dX5_leat_14 : decode cX5_leat 14 = .ok (.aload_n 0, 1) := by decide +kernel
theorem dX5_leat_15 : decode cX5_leat 15 = .ok (.getfield 16, 3) := by decide +kernel
theorem dX5_leat_18 : decode cX5_leat 18 = .ok (.iload_n 1, 1) := by decide +kernel
theorem dX5_leat_19 : decode cX5_leat 19 = .ok (.iaload, 1) := by decide +kernel
theorem dX5_leat_20 : decode cX5_leat 20 = .ok (.ifCond .ge 9, 3) := by decide +kernel
theorem dX5_leat_23 : decode cX5_leat 23 = .ok (.aload_n 0, 1) := by decide +kernel
theorem dX5_leat_24 : decode cX5_leat 24 = .ok (.iconst 1, 1) := by decide +kernel
theorem dX5_leat_25 : decode cX5_leat 25 = .ok (.invokevirtual 67, 3) := by decide +kernel
theorem dX5_leat_28 : decode cX5_leat 28 = .ok (.ireturn, 1) := by decide +kernel
theorem dX5_leat_29 : decode cX5_leat 29 = .ok (.aload_n 0, 1) := by decide +kernel
theorem dX5_leat_30 : decode cX5_leat 30 = .ok (.iload_n 1, 1) := by decide +kernel
theorem dX5_leat_31 : decode cX5_leat 31 = .ok (.invokevirtual 94, 3) := by decide +kernel
theorem dX5_leat_34 : decode cX5_leat 34 = .ok (.bipush (-9), 2) := by decide +kernel
theorem dX5_leat_36 : decode cX5_leat 36 = .ok (.if_icmp .eq 6, 3) := by decide +kernel
theorem dX5_leat_39 : decode cX5_leat 39 = .ok (.bipush (-4), 2) := by decide +kernel
theorem dX5_leat_41 : decode cX5_leat 41 = .ok (.ireturn, 1) := by decide +kernel
theorem dX5_leat_42 : decode cX5_leat 42 = .ok (.aload_n 0, 1) := by decide +kernel
theorem dX5_leat_43 : decode cX5_leat 43 = .ok (.aload_n 0, 1) := by decide +kernel
theorem dX5_leat_44 : decode cX5_leat 44 = .ok (.getfield 80, 3) := by decide +kernel
theorem dX5_leat_47 : decode cX5_leat 47 = .ok (.putfield 97, 3) := by decide +kernel
theorem dX5_leat_50 : decode cX5_leat 50 = .ok (.iconst 0, 1) := by decide +kernel
theorem dX5_leat_51 : decode cX5_leat 51 = .ok (.istore_n 2, 1) := by decide +kernel
theorem dX5_leat_52 : decode cX5_leat 52 = .ok (.iload_n 2, 1) := by decide +kernel
theorem dX5_leat_53 : decode cX5_leat 53 = .ok (.bipush 9, 2) := by decide +kernel
theorem dX5_leat_55 : decode cX5_leat 55 = .ok (.if_icmp .ge 45, 3) := by decide +kernel
theorem dX5_leat_58 : decode cX5_leat 58 = .ok (.aload_n 0, 1) := by decide +kernel
theorem dX5_leat_59 : decode cX5_leat 59 = .ok (.getfield 23, 3) := by decide +kernel
theorem dX5_leat_62 : decode cX5_leat 62 = .ok (.iload_n 2, 1) := by decide +kernel
theorem dX5_leat_63 : decode cX5_leat 63 = .ok (.aload_n 0, 1) := by decide +kernel
theorem dX5_leat_64 : decode cX5_leat 64 = .ok (.getfield 32, 3) := by decide +kernel
theorem dX5_leat_67 : decode cX5_leat 67 = .ok (.iload_n 2, 1) := by decide +kernel
theorem dX5_leat_68 : decode cX5_leat 68 = .ok (.iaload, 1) := by decide +kernel
theorem dX5_leat_69 : decode cX5_leat 69 = .ok (.iastore, 1) := by decide +kernel
theorem dX5_leat_70 : decode cX5_leat 70 = .ok (.aload_n 0, 1) := by decide +kernel
theorem dX5_leat_71 : decode cX5_leat 71 = .ok (.getfield 26, 3) := by decide +kernel
theorem dX5_leat_74 : decode cX5_leat 74 = .ok (.iload_n 2, 1) := by decide +kernel
theorem dX5_leat_75 : decode cX5_leat 75 = .ok (.aload_n 0, 1) := by decide +kernel
theorem dX5_leat_76 : decode cX5_leat 76 = .ok (.getfield 35, 3) := by decide +kernel
theorem dX5_leat_79 : decode cX5_leat 79 = .ok (.iload_n 2, 1) := by decide +kernel
theorem dX5_leat_80 : decode cX5_leat 80 = .ok (.iaload, 1) := by decide +kernel
theorem dX5_leat_81 : decode cX5_leat 81 = .ok (.iastore, 1) := by decide +kernel
theorem dX5_leat_82 : decode cX5_leat 82 = .ok (.aload_n 0, 1) := by decide +kernel
theorem dX5_leat_83 : decode cX5_leat 83 = .ok (.getfield 29, 3) := by decide +kernel
theorem dX5_leat_86 : decode cX5_leat 86 = .ok (.iload_n 2, 1) := by decide +kernel
theorem dX5_leat_87 : decode cX5_leat 87 = .ok (.aload_n 0, 1) := by decide +kernel
theorem dX5_leat_88 : decode cX5_leat 88 = .ok (.getfield 38, 3) := by decide +kernel
theorem dX5_leat_91 : decode cX5_leat 91 = .ok (.iload_n 2, 1) := by decide +kernel
theorem dX5_leat_92 : decode cX5_leat 92 = .ok (.iaload, 1) := by decide +kernel
theorem dX5_leat_93 : decode cX5_leat 93 = .ok (.iastore, 1) := by decide +kernel
theorem dX5_leat_94 : decode cX5_leat 94 = .ok (.iinc 2 1, 3) := by decide +kernel
theorem dX5_leat_97 : decode cX5_leat 97 = .ok (.goto (-45), 3) := by decide +kernel
theorem dX5_leat_100 : decode cX5_leat 100 = .ok (.aload_n 0, 1) := by decide +kernel
theorem dX5_leat_101 : decode cX5_leat 101 = .ok (.iconst 0, 1) := by decide +kernel
theorem dX5_leat_102 : decode cX5_leat 102 = .ok (.putfield 100, 3) := by decide +kernel
theorem dX5_leat_105 : decode cX5_leat 105 = .ok (.iconst 0, 1) := by decide +kernel
theorem dX5_leat_106 : decode cX5_leat 106 = .ok (.istore_n 2, 1) := by decide +kernel
theorem dX5_leat_107 : decode cX5_leat 107 = .ok (.iload_n 2, 1) := by decide +kernel
theorem dX5_leat_108 : decode cX5_leat 108 = .ok (.bipush 6, 2) := by decide +kernel
theorem dX5_leat_110 : decode cX5_leat 110 = .ok (.if_icmp .ge 16, 3) := by decide +kernel
theorem dX5_leat_113 : decode cX5_leat 113 = .ok (.aload_n 0, 1) := by decide +kernel
theorem dX5_leat_114 : decode cX5_leat 114 = .ok (.getfield 41, 3) := by decide +kernel
theorem dX5_leat_117 : decode cX5_leat 117 = .ok (.iload_n 2, 1) := by decide +kernel
theorem dX5_leat_118 : decode cX5_leat 118 = .ok (.iconst 0, 1) := by decide +kernel
theorem dX5_leat_119 : decode cX5_leat 119 = .ok (.iastore, 1) := by decide +kernel
theorem dX5_leat_120 : decode cX5_leat 120 = .ok (.iinc 2 1, 3) := by decide +kernel
theorem dX5_leat_123 : decode cX5_leat 123 = .ok (.goto (-16), 3) := by decide +kernel
theorem dX5_leat_126 : decode cX5_leat 126 = .ok (.aload_n 0, 1) := by decide +kernel
theorem dX5_leat_127 : decode cX5_leat 127 = .ok (.getfield 41, 3) := by decide +kernel
theorem dX5_leat_130 : decode cX5_leat 130 = .ok (.iconst 1, 1) := by decide +kernel
theorem dX5_leat_131 : decode cX5_leat 131 = .ok (.iconst 2, 1) := by decide +kernel
theorem dX5_leat_132 : decode cX5_leat 132 = .ok (.iastore, 1) := by decide +kernel
theorem dX5_leat_133 : decode cX5_leat 133 = .ok (.iconst 0, 1) := by decide +kernel
theorem dX5_leat_134 : decode cX5_leat 134 = .ok (.istore_n 2, 1) := by decide +kernel
theorem dX5_leat_135 : decode cX5_leat 135 = .ok (.iload_n 2, 1) := by decide +kernel
theorem dX5_leat_136 : decode cX5_leat 136 = .ok (.iconst 3, 1) := by decide +kernel
theorem dX5_leat_137 : decode cX5_leat 137 = .ok (.if_icmp .ge 16, 3) := by decide +kernel
theorem dX5_leat_140 : decode cX5_leat 140 = .ok (.aload_n 0, 1) := by decide +kernel
theorem dX5_leat_141 : decode cX5_leat 141 = .ok (.getfield 44, 3) := by decide +kernel
theorem dX5_leat_144 : decode cX5_leat 144 = .ok (.iload_n 2, 1) := by decide +kernel
theorem dX5_leat_145 : decode cX5_leat 145 = .ok (.iconst (-1), 1) := by decide +kernel
theorem dX5_leat_146 : decode cX5_leat 146 = .ok (.iastore, 1) := by decide +kernel
theorem dX5_leat_147 : decode cX5_leat 147 = .ok (.iinc 2 1, 3) := by decide +kernel
theorem dX5_leat_150 : decode cX5_leat 150 = .ok (.goto (-15), 3) := by decide +kernel
theorem dX5_leat_153 : decode cX5_leat 153 = .ok (.aload_n 0, 1) := by decide +kernel
theorem dX5_leat_154 : decode cX5_leat 154 = .ok (.getfield 97, 3) := by decide +kernel
theorem dX5_leat_157 : decode cX5_leat 157 = .ok (.ireturn, 1) := by decide +kernel
theorem dX5_now_0 : decode cX5_now 0 = .ok (.bipush 6, 2) := by decide +kernel
theorem dX5_now_2 : decode cX5_now 2 = .ok (.aload_n 0, 1) := by decide +kernel
theorem dX5_now_3 : decode cX5_now 3 = .ok (.getfield 100, 3) := by decide +kernel
theorem dX5_now_6 : decode cX5_now 6 = .ok (.imul, 1) := by decide +kernel
theorem dX5_now_7 : decode cX5_now 7 = .ok (.ireturn, 1) := by decide +kernel
theorem dX5_grindsAs_0 : decode cX5_grindsAs 0 = .ok (.iload_n 0, 1) := by decide +kernel
theorem dX5_grindsAs_1 : decode cX5_grindsAs 1 = .ok (.iconst 1, 1) := by decide +kernel
theorem dX5_grindsAs_2 : decode cX5_grindsAs 2 = .ok (.if_icmp .eq 8, 3) := by decide +kernel
theorem dX5_grindsAs_5 : decode cX5_grindsAs 5 = .ok (.iload_n 0, 1) := by decide +kernel
theorem dX5_grindsAs_6 : decode cX5_grindsAs 6 = .ok (.iconst 4, 1) := by decide +kernel
theorem dX5_grindsAs_7 : decode cX5_grindsAs 7 = .ok (.if_icmp .ne 9, 3) := by decide +kernel
theorem dX5_grindsAs_10 : decode cX5_grindsAs 10 = .ok (.iconst 2, 1) := by decide +kernel
theorem dX5_grindsAs_11 : decode cX5_grindsAs 11 = .ok (.iload_n 1, 1) := by decide +kernel
theorem dX5_grindsAs_12 : decode cX5_grindsAs 12 = .ok (.imul, 1) := by decide +kernel
theorem dX5_grindsAs_13 : decode cX5_grindsAs 13 = .ok (.goto 4, 3) := by decide +kernel
theorem dX5_grindsAs_16 : decode cX5_grindsAs 16 = .ok (.iload_n 1, 1) := by decide +kernel
theorem dX5_grindsAs_17 : decode cX5_grindsAs 17 = .ok (.istore 5, 2) := by decide +kernel
theorem dX5_grindsAs_19 : decode cX5_grindsAs 19 = .ok (.iload_n 0, 1) := by decide +kernel
theorem dX5_grindsAs_20 : decode cX5_grindsAs 20 = .ok (.iconst 2, 1) := by decide +kernel
theorem dX5_grindsAs_21 : decode cX5_grindsAs 21 = .ok (.if_icmp .ne 11, 3) := by decide +kernel
theorem dX5_grindsAs_24 : decode cX5_grindsAs 24 = .ok (.iconst 1, 1) := by decide +kernel
theorem dX5_grindsAs_25 : decode cX5_grindsAs 25 = .ok (.iload_n 3, 1) := by decide +kernel
theorem dX5_grindsAs_26 : decode cX5_grindsAs 26 = .ok (.invokestatic 103, 3) := by decide +kernel
theorem dX5_grindsAs_29 : decode cX5_grindsAs 29 = .ok (.goto 4, 3) := by decide +kernel
theorem dX5_grindsAs_32 : decode cX5_grindsAs 32 = .ok (.iload_n 3, 1) := by decide +kernel
theorem dX5_grindsAs_33 : decode cX5_grindsAs 33 = .ok (.istore 6, 2) := by decide +kernel
theorem dX5_grindsAs_35 : decode cX5_grindsAs 35 = .ok (.iconst 0, 1) := by decide +kernel
theorem dX5_grindsAs_36 : decode cX5_grindsAs 36 = .ok (.iload 5, 2) := by decide +kernel
theorem dX5_grindsAs_38 : decode cX5_grindsAs 38 = .ok (.iload 6, 2) := by decide +kernel
theorem dX5_grindsAs_40 : decode cX5_grindsAs 40 = .ok (.imul, 1) := by decide +kernel
theorem dX5_grindsAs_41 : decode cX5_grindsAs 41 = .ok (.iload 4, 2) := by decide +kernel
theorem dX5_grindsAs_43 : decode cX5_grindsAs 43 = .ok (.isub, 1) := by decide +kernel
theorem dX5_grindsAs_44 : decode cX5_grindsAs 44 = .ok (.invokestatic 106, 3) := by decide +kernel
theorem dX5_grindsAs_47 : decode cX5_grindsAs 47 = .ok (.istore 7, 2) := by decide +kernel
theorem dX5_grindsAs_49 : decode cX5_grindsAs 49 = .ok (.iload_n 0, 1) := by decide +kernel
theorem dX5_grindsAs_50 : decode cX5_grindsAs 50 = .ok (.iconst 4, 1) := by decide +kernel
theorem dX5_grindsAs_51 : decode cX5_grindsAs 51 = .ok (.if_icmp .ne 15, 3) := by decide +kernel
theorem dX5_grindsAs_54 : decode cX5_grindsAs 54 = .ok (.iload_n 3, 1) := by decide +kernel
theorem dX5_grindsAs_55 : decode cX5_grindsAs 55 = .ok (.iconst 4, 1) := by decide +kernel
theorem dX5_grindsAs_56 : decode cX5_grindsAs 56 = .ok (.if_icmp .ne 10, 3) := by decide +kernel
theorem dX5_grindsAs_59 : decode cX5_grindsAs 59 = .ok (.iload 7, 2) := by decide +kernel
theorem dX5_grindsAs_61 : decode cX5_grindsAs 61 = .ok (.iconst 5, 1) := by decide +kernel
theorem dX5_grindsAs_62 : decode cX5_grindsAs 62 = .ok (.iadd, 1) := by decide +kernel
theorem dX5_grindsAs_63 : decode cX5_grindsAs 63 = .ok (.goto 21, 3) := by decide +kernel
theorem dX5_grindsAs_66 : decode cX5_grindsAs 66 = .ok (.iload_n 0, 1) := by decide +kernel
theorem dX5_grindsAs_67 : decode cX5_grindsAs 67 = .ok (.iconst 5, 1) := by decide +kernel
theorem dX5_grindsAs_68 : decode cX5_grindsAs 68 = .ok (.if_icmp .ne 14, 3) := by decide +kernel
theorem dX5_grindsAs_71 : decode cX5_grindsAs 71 = .ok (.iconst 0, 1) := by decide +kernel
theorem dX5_grindsAs_72 : decode cX5_grindsAs 72 = .ok (.iload 7, 2) := by decide +kernel
theorem dX5_grindsAs_74 : decode cX5_grindsAs 74 = .ok (.iload_n 2, 1) := by decide +kernel
theorem dX5_grindsAs_75 : decode cX5_grindsAs 75 = .ok (.isub, 1) := by decide +kernel
theorem dX5_grindsAs_76 : decode cX5_grindsAs 76 = .ok (.invokestatic 106, 3) := by decide +kernel
theorem dX5_grindsAs_79 : decode cX5_grindsAs 79 = .ok (.goto 5, 3) := by decide +kernel
theorem dX5_grindsAs_82 : decode cX5_grindsAs 82 = .ok (.iload 7, 2) := by decide +kernel
theorem dX5_grindsAs_84 : decode cX5_grindsAs 84 = .ok (.ireturn, 1) := by decide +kernel
theorem dX5_leavesAs_0 : decode cX5_leavesAs 0 = .ok (.iload_n 0, 1) := by decide +kernel
theorem dX5_leavesAs_1 : decode cX5_leavesAs 1 = .ok (.iconst 1, 1) := by decide +kernel
theorem dX5_leavesAs_2 : decode cX5_leavesAs 2 = .ok (.if_icmp .eq 8, 3) := by decide +kernel
theorem dX5_leavesAs_5 : decode cX5_leavesAs 5 = .ok (.iload_n 0, 1) := by decide +kernel
theorem dX5_leavesAs_6 : decode cX5_leavesAs 6 = .ok (.iconst 4, 1) := by decide +kernel
theorem dX5_leavesAs_7 : decode cX5_leavesAs 7 = .ok (.if_icmp .ne 9, 3) := by decide +kernel
theorem dX5_leavesAs_10 : decode cX5_leavesAs 10 = .ok (.iload_n 1, 1) := by decide +kernel
theorem dX5_leavesAs_11 : decode cX5_leavesAs 11 = .ok (.iconst 2, 1) := by decide +kernel
theorem dX5_leavesAs_12 : decode cX5_leavesAs 12 = .ok (.idiv, 1) := by decide +kernel
theorem dX5_leavesAs_13 : decode cX5_leavesAs 13 = .ok (.goto 28, 3) := by decide +kernel
theorem dX5_leavesAs_16 : decode cX5_leavesAs 16 = .ok (.iload_n 0, 1) := by decide +kernel
theorem dX5_leavesAs_17 : decode cX5_leavesAs 17 = .ok (.iconst 3, 1) := by decide +kernel
theorem dX5_leavesAs_18 : decode cX5_leavesAs 18 = .ok (.if_icmp .ne 9, 3) := by decide +kernel
theorem dX5_leavesAs_21 : decode cX5_leavesAs 21 = .ok (.iload_n 1, 1) := by decide +kernel
theorem dX5_leavesAs_22 : decode cX5_leavesAs 22 = .ok (.iconst 3, 1) := by decide +kernel
theorem dX5_leavesAs_23 : decode cX5_leavesAs 23 = .ok (.iadd, 1) := by decide +kernel
theorem dX5_leavesAs_24 : decode cX5_leavesAs 24 = .ok (.goto 17, 3) := by decide +kernel
theorem dX5_leavesAs_27 : decode cX5_leavesAs 27 = .ok (.iload_n 0, 1) := by decide +kernel
theorem dX5_leavesAs_28 : decode cX5_leavesAs 28 = .ok (.iconst 5, 1) := by decide +kernel
theorem dX5_leavesAs_29 : decode cX5_leavesAs 29 = .ok (.if_icmp .ne 11, 3) := by decide +kernel
theorem dX5_leavesAs_32 : decode cX5_leavesAs 32 = .ok (.iconst 2, 1) := by decide +kernel
theorem dX5_leavesAs_33 : decode cX5_leavesAs 33 = .ok (.iload_n 1, 1) := by decide +kernel
theorem dX5_leavesAs_34 : decode cX5_leavesAs 34 = .ok (.iconst 3, 1) := by decide +kernel
theorem dX5_leavesAs_35 : decode cX5_leavesAs 35 = .ok (.iadd, 1) := by decide +kernel
theorem dX5_leavesAs_36 : decode cX5_leavesAs 36 = .ok (.imul, 1) := by decide +kernel
theorem dX5_leavesAs_37 : decode cX5_leavesAs 37 = .ok (.goto 4, 3) := by decide +kernel
theorem dX5_leavesAs_40 : decode cX5_leavesAs 40 = .ok (.iload_n 1, 1) := by decide +kernel
theorem dX5_leavesAs_41 : decode cX5_leavesAs 41 = .ok (.ireturn, 1) := by decide +kernel
theorem dX5_driftOf_0 : decode cX5_driftOf 0 = .ok (.aload_n 0, 1) := by decide +kernel
theorem dX5_driftOf_1 : decode cX5_driftOf 1 = .ok (.getfield 41, 3) := by decide +kernel
theorem dX5_driftOf_4 : decode cX5_driftOf 4 = .ok (.iload_n 1, 1) := by decide +kernel
theorem dX5_driftOf_5 : decode cX5_driftOf 5 = .ok (.iconst 5, 1) := by decide +kernel
theorem dX5_driftOf_6 : decode cX5_driftOf 6 = .ok (.iadd, 1) := by decide +kernel
theorem dX5_driftOf_7 : decode cX5_driftOf 7 = .ok (.iaload, 1) := by decide +kernel
theorem dX5_driftOf_8 : decode cX5_driftOf 8 = .ok (.iload_n 2, 1) := by decide +kernel
theorem dX5_driftOf_9 : decode cX5_driftOf 9 = .ok (.invokestatic 109, 3) := by decide +kernel
theorem dX5_driftOf_12 : decode cX5_driftOf 12 = .ok (.ifCond .eq 7, 3) := by decide +kernel
theorem dX5_driftOf_15 : decode cX5_driftOf 15 = .ok (.iconst 0, 1) := by decide +kernel
theorem dX5_driftOf_16 : decode cX5_driftOf 16 = .ok (.goto 9, 3) := by decide +kernel
theorem dX5_driftOf_19 : decode cX5_driftOf 19 = .ok (.aload_n 0, 1) := by decide +kernel
theorem dX5_driftOf_20 : decode cX5_driftOf 20 = .ok (.getfield 29, 3) := by decide +kernel
theorem dX5_driftOf_23 : decode cX5_driftOf 23 = .ok (.iload_n 2, 1) := by decide +kernel
theorem dX5_driftOf_24 : decode cX5_driftOf 24 = .ok (.iaload, 1) := by decide +kernel
theorem dX5_driftOf_25 : decode cX5_driftOf 25 = .ok (.ireturn, 1) := by decide +kernel
theorem dX5_grindsNow_0 : decode cX5_grindsNow 0 = .ok (.aload_n 0, 1) := by decide +kernel
theorem dX5_grindsNow_1 : decode cX5_grindsNow 1 = .ok (.getfield 23, 3) := by decide +kernel
theorem dX5_grindsNow_4 : decode cX5_grindsNow 4 = .ok (.iload_n 2, 1) := by decide +kernel
theorem dX5_grindsNow_5 : decode cX5_grindsNow 5 = .ok (.iaload, 1) := by decide +kernel
theorem dX5_grindsNow_6 : decode cX5_grindsNow 6 = .ok (.aload_n 0, 1) := by decide +kernel
theorem dX5_grindsNow_7 : decode cX5_grindsNow 7 = .ok (.getfield 26, 3) := by decide +kernel
theorem dX5_grindsNow_10 : decode cX5_grindsNow 10 = .ok (.iload_n 2, 1) := by decide +kernel
theorem dX5_grindsNow_11 : decode cX5_grindsNow 11 = .ok (.iaload, 1) := by decide +kernel
theorem dX5_grindsNow_12 : decode cX5_grindsNow 12 = .ok (.aload_n 0, 1) := by decide +kernel
theorem dX5_grindsNow_13 : decode cX5_grindsNow 13 = .ok (.iload_n 1, 1) := by decide +kernel
theorem dX5_grindsNow_14 : decode cX5_grindsNow 14 = .ok (.iload_n 2, 1) := by decide +kernel
theorem dX5_grindsNow_15 : decode cX5_grindsNow 15 = .ok (.invokevirtual 113, 3) := by decide +kernel
theorem dX5_grindsNow_18 : decode cX5_grindsNow 18 = .ok (.aload_n 0, 1) := by decide +kernel
theorem dX5_grindsNow_19 : decode cX5_grindsNow 19 = .ok (.getfield 41, 3) := by decide +kernel
theorem dX5_grindsNow_22 : decode cX5_grindsNow 22 = .ok (.iload_n 1, 1) := by decide +kernel
theorem dX5_grindsNow_23 : decode cX5_grindsNow 23 = .ok (.iconst 1, 1) := by decide +kernel
theorem dX5_grindsNow_24 : decode cX5_grindsNow 24 = .ok (.iadd, 1) := by decide +kernel
theorem dX5_grindsNow_25 : decode cX5_grindsNow 25 = .ok (.iaload, 1) := by decide +kernel
theorem dX5_grindsNow_26 : decode cX5_grindsNow 26 = .ok (.aload_n 0, 1) := by decide +kernel
theorem dX5_grindsNow_27 : decode cX5_grindsNow 27 = .ok (.getfield 41, 3) := by decide +kernel
theorem dX5_grindsNow_30 : decode cX5_grindsNow 30 = .ok (.iload_n 1, 1) := by decide +kernel
theorem dX5_grindsNow_31 : decode cX5_grindsNow 31 = .ok (.iconst 2, 1) := by decide +kernel
theorem dX5_grindsNow_32 : decode cX5_grindsNow 32 = .ok (.iadd, 1) := by decide +kernel
theorem dX5_grindsNow_33 : decode cX5_grindsNow 33 = .ok (.iaload, 1) := by decide +kernel
theorem dX5_grindsNow_34 : decode cX5_grindsNow 34 = .ok (.invokestatic 116, 3) := by decide +kernel
theorem dX5_grindsNow_37 : decode cX5_grindsNow 37 = .ok (.ireturn, 1) := by decide +kernel
theorem dX5_leavesNow_0 : decode cX5_leavesNow 0 = .ok (.aload_n 0, 1) := by decide +kernel
theorem dX5_leavesNow_1 : decode cX5_leavesNow 1 = .ok (.getfield 23, 3) := by decide +kernel
theorem dX5_leavesNow_4 : decode cX5_leavesNow 4 = .ok (.iload_n 2, 1) := by decide +kernel
theorem dX5_leavesNow_5 : decode cX5_leavesNow 5 = .ok (.iaload, 1) := by decide +kernel
theorem dX5_leavesNow_6 : decode cX5_leavesNow 6 = .ok (.aload_n 0, 1) := by decide +kernel
theorem dX5_leavesNow_7 : decode cX5_leavesNow 7 = .ok (.iload_n 1, 1) := by decide +kernel
theorem dX5_leavesNow_8 : decode cX5_leavesNow 8 = .ok (.iload_n 2, 1) := by decide +kernel
theorem dX5_leavesNow_9 : decode cX5_leavesNow 9 = .ok (.invokevirtual 113, 3) := by decide +kernel
theorem dX5_leavesNow_12 : decode cX5_leavesNow 12 = .ok (.invokestatic 120, 3) := by decide +kernel
theorem dX5_leavesNow_15 : decode cX5_leavesNow 15 = .ok (.ireturn, 1) := by decide +kernel
theorem dX5_isDay_0 : decode cX5_isDay 0 = .ok (.iload_n 1, 1) := by decide +kernel
theorem dX5_isDay_1 : decode cX5_isDay 1 = .ok (.i2l, 1) := by decide +kernel
theorem dX5_isDay_2 : decode cX5_isDay 2 = .ok (.lconst 0, 1) := by decide +kernel
theorem dX5_isDay_3 : decode cX5_isDay 3 = .ok (.aload_n 0, 1) := by decide +kernel
theorem dX5_isDay_4 : decode cX5_isDay 4 = .ok (.getfield 97, 3) := by decide +kernel
theorem dX5_isDay_7 : decode cX5_isDay 7 = .ok (.iconst 1, 1) := by decide +kernel
theorem dX5_isDay_8 : decode cX5_isDay 8 = .ok (.isub, 1) := by decide +kernel
theorem dX5_isDay_9 : decode cX5_isDay 9 = .ok (.i2l, 1) := by decide +kernel
theorem dX5_isDay_10 : decode cX5_isDay 10 = .ok (.invokestatic 63, 3) := by decide +kernel
theorem dX5_isDay_13 : decode cX5_isDay 13 = .ok (.ireturn, 1) := by decide +kernel
theorem dX5_dayTold_0 : decode cX5_dayTold 0 = .ok (.aload_n 0, 1) := by decide +kernel
theorem dX5_dayTold_1 : decode cX5_dayTold 1 = .ok (.invokevirtual 123, 3) := by decide +kernel
theorem dX5_dayTold_4 : decode cX5_dayTold 4 = .ok (.istore_n 3, 1) := by decide +kernel
theorem dX5_dayTold_5 : decode cX5_dayTold 5 = .ok (.iload_n 2, 1) := by decide +kernel
theorem dX5_dayTold_6 : decode cX5_dayTold 6 = .ok (.ifCond .ne 12, 3) := by decide +kernel
theorem dX5_dayTold_9 : decode cX5_dayTold 9 = .ok (.aload_n 0, 1) := by decide +kernel
theorem dX5_dayTold_10 : decode cX5_dayTold 10 = .ok (.getfield 23, 3) := by decide +kernel
theorem dX5_dayTold_13 : decode cX5_dayTold 13 = .ok (.iload_n 1, 1) := by decide +kernel
theorem dX5_dayTold_14 : decode cX5_dayTold 14 = .ok (.iaload, 1) := by decide +kernel
theorem dX5_dayTold_15 : decode cX5_dayTold 15 = .ok (.goto 71, 3) := by decide +kernel
theorem dX5_dayTold_18 : decode cX5_dayTold 18 = .ok (.iload_n 2, 1) := by decide +kernel
theorem dX5_dayTold_19 : decode cX5_dayTold 19 = .ok (.iconst 1, 1) := by decide +kernel
theorem dX5_dayTold_20 : decode cX5_dayTold 20 = .ok (.if_icmp .ne 12, 3) := by decide +kernel
theorem dX5_dayTold_23 : decode cX5_dayTold 23 = .ok (.aload_n 0, 1) := by decide +kernel
theorem dX5_dayTold_24 : decode cX5_dayTold 24 = .ok (.getfield 26, 3) := by decide +kernel
theorem dX5_dayTold_27 : decode cX5_dayTold 27 = .ok (.iload_n 1, 1) := by decide +kernel
theorem dX5_dayTold_28 : decode cX5_dayTold 28 = .ok (.iaload, 1) := by decide +kernel
theorem dX5_dayTold_29 : decode cX5_dayTold 29 = .ok (.goto 57, 3) := by decide +kernel
theorem dX5_dayTold_32 : decode cX5_dayTold 32 = .ok (.iload_n 2, 1) := by decide +kernel
theorem dX5_dayTold_33 : decode cX5_dayTold 33 = .ok (.iconst 2, 1) := by decide +kernel
theorem dX5_dayTold_34 : decode cX5_dayTold 34 = .ok (.if_icmp .ne 12, 3) := by decide +kernel
theorem dX5_dayTold_37 : decode cX5_dayTold 37 = .ok (.aload_n 0, 1) := by decide +kernel
theorem dX5_dayTold_38 : decode cX5_dayTold 38 = .ok (.iload_n 3, 1) := by decide +kernel
theorem dX5_dayTold_39 : decode cX5_dayTold 39 = .ok (.iload_n 1, 1) := by decide +kernel
theorem dX5_dayTold_40 : decode cX5_dayTold 40 = .ok (.invokevirtual 113, 3) := by decide +kernel
theorem dX5_dayTold_43 : decode cX5_dayTold 43 = .ok (.goto 43, 3) := by decide +kernel
theorem dX5_dayTold_46 : decode cX5_dayTold 46 = .ok (.iload_n 2, 1) := by decide +kernel
theorem dX5_dayTold_47 : decode cX5_dayTold 47 = .ok (.iconst 3, 1) := by decide +kernel
theorem dX5_dayTold_48 : decode cX5_dayTold 48 = .ok (.if_icmp .ne 12, 3) := by decide +kernel
theorem dX5_dayTold_51 : decode cX5_dayTold 51 = .ok (.aload_n 0, 1) := by decide +kernel
theorem dX5_dayTold_52 : decode cX5_dayTold 52 = .ok (.iload_n 3, 1) := by decide +kernel
theorem dX5_dayTold_53 : decode cX5_dayTold 53 = .ok (.iload_n 1, 1) := by decide +kernel
theorem dX5_dayTold_54 : decode cX5_dayTold 54 = .ok (.invokevirtual 127, 3) := by decide +kernel
theorem dX5_dayTold_57 : decode cX5_dayTold 57 = .ok (.goto 29, 3) := by decide +kernel
theorem dX5_dayTold_60 : decode cX5_dayTold 60 = .ok (.iload_n 2, 1) := by decide +kernel
theorem dX5_dayTold_61 : decode cX5_dayTold 61 = .ok (.iconst 4, 1) := by decide +kernel
theorem dX5_dayTold_62 : decode cX5_dayTold 62 = .ok (.if_icmp .ne 12, 3) := by decide +kernel
theorem dX5_dayTold_65 : decode cX5_dayTold 65 = .ok (.aload_n 0, 1) := by decide +kernel
theorem dX5_dayTold_66 : decode cX5_dayTold 66 = .ok (.iload_n 3, 1) := by decide +kernel
theorem dX5_dayTold_67 : decode cX5_dayTold 67 = .ok (.iload_n 1, 1) := by decide +kernel
theorem dX5_dayTold_68 : decode cX5_dayTold 68 = .ok (.invokevirtual 130, 3) := by decide +kernel
theorem dX5_dayTold_71 : decode cX5_dayTold 71 = .ok (.goto 15, 3) := by decide +kernel
theorem dX5_dayTold_74 : decode cX5_dayTold 74 = .ok (.aload_n 0, 1) := by decide +kernel
theorem dX5_dayTold_75 : decode cX5_dayTold 75 = .ok (.getfield 41, 3) := by decide +kernel
theorem dX5_dayTold_78 : decode cX5_dayTold 78 = .ok (.iload_n 3, 1) := by decide +kernel
theorem dX5_dayTold_79 : decode cX5_dayTold 79 = .ok (.iconst 5, 1) := by decide +kernel
theorem dX5_dayTold_80 : decode cX5_dayTold 80 = .ok (.iadd, 1) := by decide +kernel
theorem dX5_dayTold_81 : decode cX5_dayTold 81 = .ok (.iaload, 1) := by decide +kernel
theorem dX5_dayTold_82 : decode cX5_dayTold 82 = .ok (.iload_n 1, 1) := by decide +kernel
theorem dX5_dayTold_83 : decode cX5_dayTold 83 = .ok (.ishr, 1) := by decide +kernel
theorem dX5_dayTold_84 : decode cX5_dayTold 84 = .ok (.iconst 1, 1) := by decide +kernel
theorem dX5_dayTold_85 : decode cX5_dayTold 85 = .ok (.iand, 1) := by decide +kernel
theorem dX5_dayTold_86 : decode cX5_dayTold 86 = .ok (.ireturn, 1) := by decide +kernel
theorem dX5_day_0 : decode cX5_day 0 = .ok (.aload_n 0, 1) := by decide +kernel
theorem dX5_day_1 : decode cX5_day 1 = .ok (.iload_n 1, 1) := by decide +kernel
theorem dX5_day_2 : decode cX5_day 2 = .ok (.invokevirtual 133, 3) := by decide +kernel
theorem dX5_day_5 : decode cX5_day 5 = .ok (.ifCond .eq 15, 3) := by decide +kernel
theorem dX5_day_8 : decode cX5_day 8 = .ok (.iload_n 2, 1) := by decide +kernel
theorem dX5_day_9 : decode cX5_day 9 = .ok (.i2l, 1) := by decide +kernel
theorem dX5_day_10 : decode cX5_day 10 = .ok (.lconst 0, 1) := by decide +kernel
theorem dX5_day_11 : decode cX5_day 11 = .ok (.ldc2_w 61, 3) := by decide +kernel
theorem dX5_day_14 : decode cX5_day 14 = .ok (.invokestatic 63, 3) := by decide +kernel
theorem dX5_day_17 : decode cX5_day 17 = .ok (.ifCond .ne 5, 3) := by decide +kernel
theorem dX5_day_20 : decode cX5_day 20 = .ok (.iconst (-1), 1) := by decide +kernel
theorem dX5_day_21 : decode cX5_day 21 = .ok (.ireturn, 1) := by decide +kernel
theorem dX5_day_22 : decode cX5_day 22 = .ok (.aload_n 0, 1) := by decide +kernel
theorem dX5_day_23 : decode cX5_day 23 = .ok (.aload_n 0, 1) := by decide +kernel
theorem dX5_day_24 : decode cX5_day 24 = .ok (.iload_n 1, 1) := by decide +kernel
theorem dX5_day_25 : decode cX5_day 25 = .ok (.iload_n 2, 1) := by decide +kernel
theorem dX5_day_26 : decode cX5_day 26 = .ok (.invokevirtual 137, 3) := by decide +kernel
theorem dX5_day_29 : decode cX5_day 29 = .ok (.putfield 75, 3) := by decide +kernel
theorem dX5_day_32 : decode cX5_day 32 = .ok (.iconst 1, 1) := by decide +kernel
theorem dX5_day_33 : decode cX5_day 33 = .ok (.ireturn, 1) := by decide +kernel
theorem dX5_isOf_0 : decode cX5_isOf 0 = .ok (.iload_n 0, 1) := by decide +kernel
theorem dX5_isOf_1 : decode cX5_isOf 1 = .ok (.iload_n 1, 1) := by decide +kernel
theorem dX5_isOf_2 : decode cX5_isOf 2 = .ok (.if_icmp .eq 23, 3) := by decide +kernel
theorem dX5_isOf_5 : decode cX5_isOf 5 = .ok (.iload_n 0, 1) := by decide +kernel
theorem dX5_isOf_6 : decode cX5_isOf 6 = .ok (.iconst 4, 1) := by decide +kernel
theorem dX5_isOf_7 : decode cX5_isOf 7 = .ok (.if_icmp .ne 8, 3) := by decide +kernel
theorem dX5_isOf_10 : decode cX5_isOf 10 = .ok (.iload_n 1, 1) := by decide +kernel
theorem dX5_isOf_11 : decode cX5_isOf 11 = .ok (.iconst 1, 1) := by decide +kernel
theorem dX5_isOf_12 : decode cX5_isOf 12 = .ok (.if_icmp .eq 13, 3) := by decide +kernel
theorem dX5_isOf_15 : decode cX5_isOf 15 = .ok (.iload_n 0, 1) := by decide +kernel
theorem dX5_isOf_16 : decode cX5_isOf 16 = .ok (.iconst 5, 1) := by decide +kernel
theorem dX5_isOf_17 : decode cX5_isOf 17 = .ok (.if_icmp .ne 12, 3) := by decide +kernel
theorem dX5_isOf_20 : decode cX5_isOf 20 = .ok (.iload_n 1, 1) := by decide +kernel
theorem dX5_isOf_21 : decode cX5_isOf 21 = .ok (.iconst 3, 1) := by decide +kernel
theorem dX5_isOf_22 : decode cX5_isOf 22 = .ok (.if_icmp .ne 7, 3) := by decide +kernel
theorem dX5_isOf_25 : decode cX5_isOf 25 = .ok (.iconst 1, 1) := by decide +kernel
theorem dX5_isOf_26 : decode cX5_isOf 26 = .ok (.goto 4, 3) := by decide +kernel
theorem dX5_isOf_29 : decode cX5_isOf 29 = .ok (.iconst 0, 1) := by decide +kernel
theorem dX5_isOf_30 : decode cX5_isOf 30 = .ok (.ireturn, 1) := by decide +kernel
theorem dX5_mark_0 : decode cX5_mark 0 = .ok (.aload_n 0, 1) := by decide +kernel
theorem dX5_mark_1 : decode cX5_mark 1 = .ok (.iload_n 1, 1) := by decide +kernel
theorem dX5_mark_2 : decode cX5_mark 2 = .ok (.invokevirtual 133, 3) := by decide +kernel
theorem dX5_mark_5 : decode cX5_mark 5 = .ok (.ifCond .eq 15, 3) := by decide +kernel
theorem dX5_mark_8 : decode cX5_mark 8 = .ok (.iload_n 2, 1) := by decide +kernel
theorem dX5_mark_9 : decode cX5_mark 9 = .ok (.i2l, 1) := by decide +kernel
theorem dX5_mark_10 : decode cX5_mark 10 = .ok (.lconst 1, 1) := by decide +kernel
theorem dX5_mark_11 : decode cX5_mark 11 = .ok (.ldc2_w 61, 3) := by decide +kernel
theorem dX5_mark_14 : decode cX5_mark 14 = .ok (.invokestatic 63, 3) := by decide +kernel
theorem dX5_mark_17 : decode cX5_mark 17 = .ok (.ifCond .ne 5, 3) := by decide +kernel
theorem dX5_mark_20 : decode cX5_mark 20 = .ok (.iconst (-1), 1) := by decide +kernel
theorem dX5_mark_21 : decode cX5_mark 21 = .ok (.ireturn, 1) := by decide +kernel
theorem dX5_mark_22 : decode cX5_mark 22 = .ok (.aload_n 0, 1) := by decide +kernel
theorem dX5_mark_23 : decode cX5_mark 23 = .ok (.getfield 23, 3) := by decide +kernel
theorem dX5_mark_26 : decode cX5_mark 26 = .ok (.iload_n 1, 1) := by decide +kernel
theorem dX5_mark_27 : decode cX5_mark 27 = .ok (.iaload, 1) := by decide +kernel
theorem dX5_mark_28 : decode cX5_mark 28 = .ok (.iload_n 2, 1) := by decide +kernel
theorem dX5_mark_29 : decode cX5_mark 29 = .ok (.invokestatic 140, 3) := by decide +kernel
theorem dX5_mark_32 : decode cX5_mark 32 = .ok (.ifCond .ne 9, 3) := by decide +kernel
theorem dX5_mark_35 : decode cX5_mark 35 = .ok (.aload_n 0, 1) := by decide +kernel
theorem dX5_mark_36 : decode cX5_mark 36 = .ok (.iconst 3, 1) := by decide +kernel
theorem dX5_mark_37 : decode cX5_mark 37 = .ok (.invokevirtual 67, 3) := by decide +kernel
theorem dX5_mark_40 : decode cX5_mark 40 = .ok (.ireturn, 1) := by decide +kernel
theorem dX5_mark_41 : decode cX5_mark 41 = .ok (.aload_n 0, 1) := by decide +kernel
theorem dX5_mark_42 : decode cX5_mark 42 = .ok (.invokevirtual 123, 3) := by decide +kernel
theorem dX5_mark_45 : decode cX5_mark 45 = .ok (.istore_n 3, 1) := by decide +kernel
theorem dX5_mark_46 : decode cX5_mark 46 = .ok (.aload_n 0, 1) := by decide +kernel
theorem dX5_mark_47 : decode cX5_mark 47 = .ok (.iload_n 3, 1) := by decide +kernel
theorem dX5_mark_48 : decode cX5_mark 48 = .ok (.iload_n 1, 1) := by decide +kernel
theorem dX5_mark_49 : decode cX5_mark 49 = .ok (.invokevirtual 113, 3) := by decide +kernel
theorem dX5_mark_52 : decode cX5_mark 52 = .ok (.istore 4, 2) := by decide +kernel
theorem dX5_mark_54 : decode cX5_mark 54 = .ok (.aload_n 0, 1) := by decide +kernel
theorem dX5_mark_55 : decode cX5_mark 55 = .ok (.getfield 41, 3) := by decide +kernel
theorem dX5_mark_58 : decode cX5_mark 58 = .ok (.iload_n 3, 1) := by decide +kernel
theorem dX5_mark_59 : decode cX5_mark 59 = .ok (.iconst 1, 1) := by decide +kernel
theorem dX5_mark_60 : decode cX5_mark 60 = .ok (.iadd, 1) := by decide +kernel
theorem dX5_mark_61 : decode cX5_mark 61 = .ok (.iaload, 1) := by decide +kernel
theorem dX5_mark_62 : decode cX5_mark 62 = .ok (.istore 5, 2) := by decide +kernel
theorem dX5_mark_64 : decode cX5_mark 64 = .ok (.aload_n 0, 1) := by decide +kernel
theorem dX5_mark_65 : decode cX5_mark 65 = .ok (.getfield 41, 3) := by decide +kernel
theorem dX5_mark_68 : decode cX5_mark 68 = .ok (.iload_n 3, 1) := by decide +kernel
theorem dX5_mark_69 : decode cX5_mark 69 = .ok (.iconst 2, 1) := by decide +kernel
theorem dX5_mark_70 : decode cX5_mark 70 = .ok (.iadd, 1) := by decide +kernel
theorem dX5_mark_71 : decode cX5_mark 71 = .ok (.iaload, 1) := by decide +kernel
theorem dX5_mark_72 : decode cX5_mark 72 = .ok (.istore 6, 2) := by decide +kernel
theorem dX5_mark_74 : decode cX5_mark 74 = .ok (.iload_n 2, 1) := by decide +kernel
theorem dX5_mark_75 : decode cX5_mark 75 = .ok (.iconst 4, 1) := by decide +kernel
theorem dX5_mark_76 : decode cX5_mark 76 = .ok (.if_icmp .ne 7, 3) := by decide +kernel
theorem dX5_mark_79 : decode cX5_mark 79 = .ok (.iconst 1, 1) := by decide +kernel
theorem dX5_mark_80 : decode cX5_mark 80 = .ok (.goto 13, 3) := by decide +kernel
theorem dX5_mark_83 : decode cX5_mark 83 = .ok (.iload_n 2, 1) := by decide +kernel
theorem dX5_mark_84 : decode cX5_mark 84 = .ok (.iconst 5, 1) := by decide +kernel
theorem dX5_mark_85 : decode cX5_mark 85 = .ok (.if_icmp .ne 7, 3) := by decide +kernel
theorem dX5_mark_88 : decode cX5_mark 88 = .ok (.iconst 3, 1) := by decide +kernel
theorem dX5_mark_89 : decode cX5_mark 89 = .ok (.goto 4, 3) := by decide +kernel
theorem dX5_mark_92 : decode cX5_mark 92 = .ok (.iconst 0, 1) := by decide +kernel
theorem dX5_mark_93 : decode cX5_mark 93 = .ok (.istore 7, 2) := by decide +kernel
theorem dX5_mark_95 : decode cX5_mark 95 = .ok (.iload_n 2, 1) := by decide +kernel
theorem dX5_mark_96 : decode cX5_mark 96 = .ok (.iconst 3, 1) := by decide +kernel
theorem dX5_mark_97 : decode cX5_mark 97 = .ok (.if_icmp .eq 8, 3) := by decide +kernel
theorem dX5_mark_100 : decode cX5_mark 100 = .ok (.iload_n 2, 1) := by decide +kernel
theorem dX5_mark_101 : decode cX5_mark 101 = .ok (.iconst 5, 1) := by decide +kernel
theorem dX5_mark_102 : decode cX5_mark 102 = .ok (.if_icmp .ne 7, 3) := by decide +kernel
theorem dX5_mark_105 : decode cX5_mark 105 = .ok (.iconst 1, 1) := by decide +kernel
theorem dX5_mark_106 : decode cX5_mark 106 = .ok (.goto 4, 3) := by decide +kernel
theorem dX5_mark_109 : decode cX5_mark 109 = .ok (.iconst 0, 1) := by decide +kernel
theorem dX5_mark_110 : decode cX5_mark 110 = .ok (.istore 8, 2) := by decide +kernel
theorem dX5_mark_112 : decode cX5_mark 112 = .ok (.iload 8, 2) := by decide +kernel
theorem dX5_mark_114 : decode cX5_mark 114 = .ok (.ifCond .eq 25, 3) := by decide +kernel
theorem dX5_mark_117 : decode cX5_mark 117 = .ok (.aload_n 0, 1) := by decide +kernel
theorem dX5_mark_118 : decode cX5_mark 118 = .ok (.getfield 23, 3) := by decide +kernel
theorem dX5_mark_121 : decode cX5_mark 121 = .ok (.iload_n 1, 1) := by decide +kernel
theorem dX5_mark_122 : decode cX5_mark 122 = .ok (.iaload, 1) := by decide +kernel
theorem dX5_mark_123 : decode cX5_mark 123 = .ok (.iload 4, 2) := by decide +kernel
theorem dX5_mark_125 : decode cX5_mark 125 = .ok (.invokestatic 120, 3) := by decide +kernel
theorem dX5_mark_128 : decode cX5_mark 128 = .ok (.iload 7, 2) := by decide +kernel
theorem dX5_mark_130 : decode cX5_mark 130 = .ok (.iload 4, 2) := by decide +kernel
theorem dX5_mark_132 : decode cX5_mark 132 = .ok (.invokestatic 120, 3) := by decide +kernel
theorem dX5_mark_135 : decode cX5_mark 135 = .ok (.isub, 1) := by decide +kernel
theorem dX5_mark_136 : decode cX5_mark 136 = .ok (.goto 42, 3) := by decide +kernel
theorem dX5_mark_139 : decode cX5_mark 139 = .ok (.aload_n 0, 1) := by decide +kernel
theorem dX5_mark_140 : decode cX5_mark 140 = .ok (.getfield 23, 3) := by decide +kernel
theorem dX5_mark_143 : decode cX5_mark 143 = .ok (.iload_n 1, 1) := by decide +kernel
theorem dX5_mark_144 : decode cX5_mark 144 = .ok (.iaload, 1) := by decide +kernel
theorem dX5_mark_145 : decode cX5_mark 145 = .ok (.aload_n 0, 1) := by decide +kernel
theorem dX5_mark_146 : decode cX5_mark 146 = .ok (.getfield 26, 3) := by decide +kernel
theorem dX5_mark_149 : decode cX5_mark 149 = .ok (.iload_n 1, 1) := by decide +kernel
theorem dX5_mark_150 : decode cX5_mark 150 = .ok (.iaload, 1) := by decide +kernel
theorem dX5_mark_151 : decode cX5_mark 151 = .ok (.iload 4, 2) := by decide +kernel
theorem dX5_mark_153 : decode cX5_mark 153 = .ok (.iload 5, 2) := by decide +kernel
theorem dX5_mark_155 : decode cX5_mark 155 = .ok (.iload 6, 2) := by decide +kernel
theorem dX5_mark_157 : decode cX5_mark 157 = .ok (.invokestatic 116, 3) := by decide +kernel
theorem dX5_mark_160 : decode cX5_mark 160 = .ok (.iload 7, 2) := by decide +kernel
theorem dX5_mark_162 : decode cX5_mark 162 = .ok (.aload_n 0, 1) := by decide +kernel
theorem dX5_mark_163 : decode cX5_mark 163 = .ok (.getfield 26, 3) := by decide +kernel
theorem dX5_mark_166 : decode cX5_mark 166 = .ok (.iload_n 1, 1) := by decide +kernel
theorem dX5_mark_167 : decode cX5_mark 167 = .ok (.iaload, 1) := by decide +kernel
theorem dX5_mark_168 : decode cX5_mark 168 = .ok (.iload 4, 2) := by decide +kernel
theorem dX5_mark_170 : decode cX5_mark 170 = .ok (.iload 5, 2) := by decide +kernel
theorem dX5_mark_172 : decode cX5_mark 172 = .ok (.iload 6, 2) := by decide +kernel
theorem dX5_mark_174 : decode cX5_mark 174 = .ok (.invokestatic 116, 3) := by decide +kernel
theorem dX5_mark_177 : decode cX5_mark 177 = .ok (.isub, 1) := by decide +kernel
theorem dX5_mark_178 : decode cX5_mark 178 = .ok (.istore 9, 2) := by decide +kernel
theorem dX5_mark_180 : decode cX5_mark 180 = .ok (.iload 9, 2) := by decide +kernel
theorem dX5_mark_182 : decode cX5_mark 182 = .ok (.bipush 100, 2) := by decide +kernel
theorem dX5_mark_184 : decode cX5_mark 184 = .ok (.iadd, 1) := by decide +kernel
theorem dX5_mark_185 : decode cX5_mark 185 = .ok (.ireturn, 1) := by decide +kernel
theorem dX5_grinds_0 : decode cX5_grinds 0 = .ok (.aload_n 0, 1) := by decide +kernel
theorem dX5_grinds_1 : decode cX5_grinds 1 = .ok (.iload_n 1, 1) := by decide +kernel
theorem dX5_grinds_2 : decode cX5_grinds 2 = .ok (.invokevirtual 133, 3) := by decide +kernel
theorem dX5_grinds_5 : decode cX5_grinds 5 = .ok (.ifCond .eq 27, 3) := by decide +kernel
theorem dX5_grinds_8 : decode cX5_grinds 8 = .ok (.iload_n 2, 1) := by decide +kernel
theorem dX5_grinds_9 : decode cX5_grinds 9 = .ok (.i2l, 1) := by decide +kernel
theorem dX5_grinds_10 : decode cX5_grinds 10 = .ok (.lconst 0, 1) := by decide +kernel
theorem dX5_grinds_11 : decode cX5_grinds 11 = .ok (.ldc2_w 143, 3) := by decide +kernel
theorem dX5_grinds_14 : decode cX5_grinds 14 = .ok (.invokestatic 63, 3) := by decide +kernel
theorem dX5_grinds_17 : decode cX5_grinds 17 = .ok (.ifCond .eq 15, 3) := by decide +kernel
theorem dX5_grinds_20 : decode cX5_grinds 20 = .ok (.iload_n 3, 1) := by decide +kernel
theorem dX5_grinds_21 : decode cX5_grinds 21 = .ok (.i2l, 1) := by decide +kernel
theorem dX5_grinds_22 : decode cX5_grinds 22 = .ok (.lconst 0, 1) := by decide +kernel
theorem dX5_grinds_23 : decode cX5_grinds 23 = .ok (.ldc2_w 145, 3) := by decide +kernel
theorem dX5_grinds_26 : decode cX5_grinds 26 = .ok (.invokestatic 63, 3) := by decide +kernel
theorem dX5_grinds_29 : decode cX5_grinds 29 = .ok (.ifCond .ne 5, 3) := by decide +kernel
theorem dX5_grinds_32 : decode cX5_grinds 32 = .ok (.iconst (-1), 1) := by decide +kernel
theorem dX5_grinds_33 : decode cX5_grinds 33 = .ok (.ireturn, 1) := by decide +kernel
theorem dX5_grinds_34 : decode cX5_grinds 34 = .ok (.aload_n 0, 1) := by decide +kernel
theorem dX5_grinds_35 : decode cX5_grinds 35 = .ok (.getfield 23, 3) := by decide +kernel
theorem dX5_grinds_38 : decode cX5_grinds 38 = .ok (.iload_n 1, 1) := by decide +kernel
theorem dX5_grinds_39 : decode cX5_grinds 39 = .ok (.iaload, 1) := by decide +kernel
theorem dX5_grinds_40 : decode cX5_grinds 40 = .ok (.aload_n 0, 1) := by decide +kernel
theorem dX5_grinds_41 : decode cX5_grinds 41 = .ok (.getfield 26, 3) := by decide +kernel
theorem dX5_grinds_44 : decode cX5_grinds 44 = .ok (.iload_n 1, 1) := by decide +kernel
theorem dX5_grinds_45 : decode cX5_grinds 45 = .ok (.iaload, 1) := by decide +kernel
theorem dX5_grinds_46 : decode cX5_grinds 46 = .ok (.aload_n 0, 1) := by decide +kernel
theorem dX5_grinds_47 : decode cX5_grinds 47 = .ok (.aload_n 0, 1) := by decide +kernel
theorem dX5_grinds_48 : decode cX5_grinds 48 = .ok (.invokevirtual 123, 3) := by decide +kernel
theorem dX5_grinds_51 : decode cX5_grinds 51 = .ok (.iload_n 1, 1) := by decide +kernel
theorem dX5_grinds_52 : decode cX5_grinds 52 = .ok (.invokevirtual 113, 3) := by decide +kernel
theorem dX5_grinds_55 : decode cX5_grinds 55 = .ok (.iload_n 2, 1) := by decide +kernel
theorem dX5_grinds_56 : decode cX5_grinds 56 = .ok (.iload_n 3, 1) := by decide +kernel
theorem dX5_grinds_57 : decode cX5_grinds 57 = .ok (.invokestatic 116, 3) := by decide +kernel
theorem dX5_grinds_60 : decode cX5_grinds 60 = .ok (.ireturn, 1) := by decide +kernel
theorem dX5_steps_0 : decode cX5_steps 0 = .ok (.aload_n 0, 1) := by decide +kernel
theorem dX5_steps_1 : decode cX5_steps 1 = .ok (.getfield 41, 3) := by decide +kernel
theorem dX5_steps_4 : decode cX5_steps 4 = .ok (.iload_n 1, 1) := by decide +kernel
theorem dX5_steps_5 : decode cX5_steps 5 = .ok (.iconst 0, 1) := by decide +kernel
theorem dX5_steps_6 : decode cX5_steps 6 = .ok (.iadd, 1) := by decide +kernel
theorem dX5_steps_7 : decode cX5_steps 7 = .ok (.iaload, 1) := by decide +kernel
theorem dX5_steps_8 : decode cX5_steps 8 = .ok (.istore_n 3, 1) := by decide +kernel
theorem dX5_steps_9 : decode cX5_steps 9 = .ok (.iload_n 2, 1) := by decide +kernel
theorem dX5_steps_10 : decode cX5_steps 10 = .ok (.ifCond .eq 7, 3) := by decide +kernel
theorem dX5_steps_13 : decode cX5_steps 13 = .ok (.iconst 0, 1) := by decide +kernel
theorem dX5_steps_14 : decode cX5_steps 14 = .ok (.goto 9, 3) := by decide +kernel
theorem dX5_steps_17 : decode cX5_steps 17 = .ok (.aload_n 0, 1) := by decide +kernel
theorem dX5_steps_18 : decode cX5_steps 18 = .ok (.iload_n 1, 1) := by decide +kernel
theorem dX5_steps_19 : decode cX5_steps 19 = .ok (.iload_n 3, 1) := by decide +kernel
theorem dX5_steps_20 : decode cX5_steps 20 = .ok (.invokevirtual 127, 3) := by decide +kernel
theorem dX5_steps_23 : decode cX5_steps 23 = .ok (.istore 4, 2) := by decide +kernel
theorem dX5_steps_25 : decode cX5_steps 25 = .ok (.aload_n 0, 1) := by decide +kernel
theorem dX5_steps_26 : decode cX5_steps 26 = .ok (.getfield 41, 3) := by decide +kernel
theorem dX5_steps_29 : decode cX5_steps 29 = .ok (.iload_n 1, 1) := by decide +kernel
theorem dX5_steps_30 : decode cX5_steps 30 = .ok (.iconst 2, 1) := by decide +kernel
theorem dX5_steps_31 : decode cX5_steps 31 = .ok (.iadd, 1) := by decide +kernel
theorem dX5_steps_32 : decode cX5_steps 32 = .ok (.bipush 40, 2) := by decide +kernel
theorem dX5_steps_34 : decode cX5_steps 34 = .ok (.aload_n 0, 1) := by decide +kernel
theorem dX5_steps_35 : decode cX5_steps 35 = .ok (.getfield 41, 3) := by decide +kernel
theorem dX5_steps_38 : decode cX5_steps 38 = .ok (.iload_n 1, 1) := by decide +kernel
theorem dX5_steps_39 : decode cX5_steps 39 = .ok (.iconst 2, 1) := by decide +kernel
theorem dX5_steps_40 : decode cX5_steps 40 = .ok (.iadd, 1) := by decide +kernel
theorem dX5_steps_41 : decode cX5_steps 41 = .ok (.iaload, 1) := by decide +kernel
theorem dX5_steps_42 : decode cX5_steps 42 = .ok (.iload_n 2, 1) := by decide +kernel
theorem dX5_steps_43 : decode cX5_steps 43 = .ok (.ifCond .eq 7, 3) := by decide +kernel
theorem dX5_steps_46 : decode cX5_steps 46 = .ok (.iconst 0, 1) := by decide +kernel
theorem dX5_steps_47 : decode cX5_steps 47 = .ok (.goto 9, 3) := by decide +kernel
theorem dX5_steps_50 : decode cX5_steps 50 = .ok (.aload_n 0, 1) := by decide +kernel
theorem dX5_steps_51 : decode cX5_steps 51 = .ok (.iload_n 1, 1) := by decide +kernel
theorem dX5_steps_52 : decode cX5_steps 52 = .ok (.iload_n 3, 1) := by decide +kernel
theorem dX5_steps_53 : decode cX5_steps 53 = .ok (.invokevirtual 130, 3) := by decide +kernel
theorem dX5_steps_56 : decode cX5_steps 56 = .ok (.iadd, 1) := by decide +kernel
theorem dX5_steps_57 : decode cX5_steps 57 = .ok (.invokestatic 103, 3) := by decide +kernel
theorem dX5_steps_60 : decode cX5_steps 60 = .ok (.iastore, 1) := by decide +kernel
theorem dX5_steps_61 : decode cX5_steps 61 = .ok (.aload_n 0, 1) := by decide +kernel
theorem dX5_steps_62 : decode cX5_steps 62 = .ok (.getfield 41, 3) := by decide +kernel
theorem dX5_steps_65 : decode cX5_steps 65 = .ok (.iload_n 1, 1) := by decide +kernel
