theorem dX5_steps_66 : decode cX5_steps 66 = .ok (.iconst 3, 1) := by decide +kernel
theorem dX5_steps_67 : decode cX5_steps 67 = .ok (.iadd, 1) := by decide +kernel
theorem dX5_steps_68 : decode cX5_steps 68 = .ok (.dup2, 1) := by decide +kernel
theorem dX5_steps_69 : decode cX5_steps 69 = .ok (.iaload, 1) := by decide +kernel
theorem dX5_steps_70 : decode cX5_steps 70 = .ok (.iload 4, 2) := by decide +kernel
theorem dX5_steps_72 : decode cX5_steps 72 = .ok (.iadd, 1) := by decide +kernel
theorem dX5_steps_73 : decode cX5_steps 73 = .ok (.iastore, 1) := by decide +kernel
theorem dX5_steps_74 : decode cX5_steps 74 = .ok (.aload_n 0, 1) := by decide +kernel
theorem dX5_steps_75 : decode cX5_steps 75 = .ok (.dup, 1) := by decide +kernel
theorem dX5_steps_76 : decode cX5_steps 76 = .ok (.getfield 147, 3) := by decide +kernel
theorem dX5_steps_79 : decode cX5_steps 79 = .ok (.iload 4, 2) := by decide +kernel
theorem dX5_steps_81 : decode cX5_steps 81 = .ok (.ifCond .ne 7, 3) := by decide +kernel
theorem dX5_steps_84 : decode cX5_steps 84 = .ok (.iconst 1, 1) := by decide +kernel
theorem dX5_steps_85 : decode cX5_steps 85 = .ok (.goto 4, 3) := by decide +kernel
theorem dX5_steps_88 : decode cX5_steps 88 = .ok (.iconst 0, 1) := by decide +kernel
theorem dX5_steps_89 : decode cX5_steps 89 = .ok (.iadd, 1) := by decide +kernel
theorem dX5_steps_90 : decode cX5_steps 90 = .ok (.putfield 147, 3) := by decide +kernel
theorem dX5_steps_93 : decode cX5_steps 93 = .ok (.aload_n 0, 1) := by decide +kernel
theorem dX5_steps_94 : decode cX5_steps 94 = .ok (.getfield 41, 3) := by decide +kernel
theorem dX5_steps_97 : decode cX5_steps 97 = .ok (.iload_n 1, 1) := by decide +kernel
theorem dX5_steps_98 : decode cX5_steps 98 = .ok (.iconst 4, 1) := by decide +kernel
theorem dX5_steps_99 : decode cX5_steps 99 = .ok (.iadd, 1) := by decide +kernel
theorem dX5_steps_100 : decode cX5_steps 100 = .ok (.dup2, 1) := by decide +kernel
theorem dX5_steps_101 : decode cX5_steps 101 = .ok (.iaload, 1) := by decide +kernel
theorem dX5_steps_102 : decode cX5_steps 102 = .ok (.iload 4, 2) := by decide +kernel
theorem dX5_steps_104 : decode cX5_steps 104 = .ok (.ifCond .ne 7, 3) := by decide +kernel
theorem dX5_steps_107 : decode cX5_steps 107 = .ok (.iconst 1, 1) := by decide +kernel
theorem dX5_steps_108 : decode cX5_steps 108 = .ok (.goto 4, 3) := by decide +kernel
theorem dX5_steps_111 : decode cX5_steps 111 = .ok (.iconst 0, 1) := by decide +kernel
theorem dX5_steps_112 : decode cX5_steps 112 = .ok (.ixor, 1) := by decide +kernel
theorem dX5_steps_113 : decode cX5_steps 113 = .ok (.iastore, 1) := by decide +kernel
theorem dX5_steps_114 : decode cX5_steps 114 = .ok (.aload_n 0, 1) := by decide +kernel
theorem dX5_steps_115 : decode cX5_steps 115 = .ok (.getfield 41, 3) := by decide +kernel
theorem dX5_steps_118 : decode cX5_steps 118 = .ok (.iload_n 1, 1) := by decide +kernel
theorem dX5_steps_119 : decode cX5_steps 119 = .ok (.iconst 0, 1) := by decide +kernel
theorem dX5_steps_120 : decode cX5_steps 120 = .ok (.iadd, 1) := by decide +kernel
theorem dX5_steps_121 : decode cX5_steps 121 = .ok (.iload_n 3, 1) := by decide +kernel
theorem dX5_steps_122 : decode cX5_steps 122 = .ok (.aload_n 0, 1) := by decide +kernel
theorem dX5_steps_123 : decode cX5_steps 123 = .ok (.getfield 41, 3) := by decide +kernel
theorem dX5_steps_126 : decode cX5_steps 126 = .ok (.iload_n 1, 1) := by decide +kernel
theorem dX5_steps_127 : decode cX5_steps 127 = .ok (.iconst 4, 1) := by decide +kernel
theorem dX5_steps_128 : decode cX5_steps 128 = .ok (.iadd, 1) := by decide +kernel
theorem dX5_steps_129 : decode cX5_steps 129 = .ok (.iaload, 1) := by decide +kernel
theorem dX5_steps_130 : decode cX5_steps 130 = .ok (.iconst 1, 1) := by decide +kernel
theorem dX5_steps_131 : decode cX5_steps 131 = .ok (.if_icmp .ne 12, 3) := by decide +kernel
theorem dX5_steps_134 : decode cX5_steps 134 = .ok (.aload_n 0, 1) := by decide +kernel
theorem dX5_steps_135 : decode cX5_steps 135 = .ok (.getfield 97, 3) := by decide +kernel
theorem dX5_steps_138 : decode cX5_steps 138 = .ok (.iconst 1, 1) := by decide +kernel
theorem dX5_steps_139 : decode cX5_steps 139 = .ok (.isub, 1) := by decide +kernel
theorem dX5_steps_140 : decode cX5_steps 140 = .ok (.goto 4, 3) := by decide +kernel
theorem dX5_steps_143 : decode cX5_steps 143 = .ok (.iconst 1, 1) := by decide +kernel
theorem dX5_steps_144 : decode cX5_steps 144 = .ok (.iadd, 1) := by decide +kernel
theorem dX5_steps_145 : decode cX5_steps 145 = .ok (.aload_n 0, 1) := by decide +kernel
theorem dX5_steps_146 : decode cX5_steps 146 = .ok (.getfield 97, 3) := by decide +kernel
theorem dX5_steps_149 : decode cX5_steps 149 = .ok (.irem, 1) := by decide +kernel
theorem dX5_steps_150 : decode cX5_steps 150 = .ok (.iastore, 1) := by decide +kernel
theorem dX5_steps_151 : decode cX5_steps 151 = .ok (.iload 4, 2) := by decide +kernel
theorem dX5_steps_153 : decode cX5_steps 153 = .ok (.ireturn, 1) := by decide +kernel
theorem dX5_copies_0 : decode cX5_copies 0 = .ok (.iconst 0, 1) := by decide +kernel
theorem dX5_copies_1 : decode cX5_copies 1 = .ok (.istore_n 3, 1) := by decide +kernel
theorem dX5_copies_2 : decode cX5_copies 2 = .ok (.iload_n 3, 1) := by decide +kernel
theorem dX5_copies_3 : decode cX5_copies 3 = .ok (.bipush 6, 2) := by decide +kernel
theorem dX5_copies_5 : decode cX5_copies 5 = .ok (.if_icmp .ge 25, 3) := by decide +kernel
theorem dX5_copies_8 : decode cX5_copies 8 = .ok (.aload_n 0, 1) := by decide +kernel
theorem dX5_copies_9 : decode cX5_copies 9 = .ok (.getfield 41, 3) := by decide +kernel
theorem dX5_copies_12 : decode cX5_copies 12 = .ok (.iload_n 2, 1) := by decide +kernel
theorem dX5_copies_13 : decode cX5_copies 13 = .ok (.iload_n 3, 1) := by decide +kernel
theorem dX5_copies_14 : decode cX5_copies 14 = .ok (.iadd, 1) := by decide +kernel
theorem dX5_copies_15 : decode cX5_copies 15 = .ok (.aload_n 0, 1) := by decide +kernel
theorem dX5_copies_16 : decode cX5_copies 16 = .ok (.getfield 41, 3) := by decide +kernel
theorem dX5_copies_19 : decode cX5_copies 19 = .ok (.iload_n 1, 1) := by decide +kernel
theorem dX5_copies_20 : decode cX5_copies 20 = .ok (.iload_n 3, 1) := by decide +kernel
theorem dX5_copies_21 : decode cX5_copies 21 = .ok (.iadd, 1) := by decide +kernel
theorem dX5_copies_22 : decode cX5_copies 22 = .ok (.iaload, 1) := by decide +kernel
theorem dX5_copies_23 : decode cX5_copies 23 = .ok (.iastore, 1) := by decide +kernel
theorem dX5_copies_24 : decode cX5_copies 24 = .ok (.iinc 3 1, 3) := by decide +kernel
theorem dX5_copies_27 : decode cX5_copies 27 = .ok (.goto (-25), 3) := by decide +kernel
theorem dX5_copies_30 : decode cX5_copies 30 = .ok (.return_, 1) := by decide +kernel
theorem dX5_deed_0 : decode cX5_deed 0 = .ok (.aload_n 0, 1) := by decide +kernel
theorem dX5_deed_1 : decode cX5_deed 1 = .ok (.aload_n 0, 1) := by decide +kernel
theorem dX5_deed_2 : decode cX5_deed 2 = .ok (.invokevirtual 123, 3) := by decide +kernel
theorem dX5_deed_5 : decode cX5_deed 5 = .ok (.aload_n 0, 1) := by decide +kernel
theorem dX5_deed_6 : decode cX5_deed 6 = .ok (.invokevirtual 123, 3) := by decide +kernel
theorem dX5_deed_9 : decode cX5_deed 9 = .ok (.bipush 6, 2) := by decide +kernel
theorem dX5_deed_11 : decode cX5_deed 11 = .ok (.iadd, 1) := by decide +kernel
theorem dX5_deed_12 : decode cX5_deed 12 = .ok (.invokevirtual 150, 3) := by decide +kernel
theorem dX5_deed_15 : decode cX5_deed 15 = .ok (.aload_n 0, 1) := by decide +kernel
theorem dX5_deed_16 : decode cX5_deed 16 = .ok (.dup, 1) := by decide +kernel
theorem dX5_deed_17 : decode cX5_deed 17 = .ok (.getfield 100, 3) := by decide +kernel
theorem dX5_deed_20 : decode cX5_deed 20 = .ok (.iconst 1, 1) := by decide +kernel
theorem dX5_deed_21 : decode cX5_deed 21 = .ok (.iadd, 1) := by decide +kernel
theorem dX5_deed_22 : decode cX5_deed 22 = .ok (.putfield 100, 3) := by decide +kernel
theorem dX5_deed_25 : decode cX5_deed 25 = .ok (.aload_n 0, 1) := by decide +kernel
theorem dX5_deed_26 : decode cX5_deed 26 = .ok (.invokevirtual 123, 3) := by decide +kernel
theorem dX5_deed_29 : decode cX5_deed 29 = .ok (.ireturn, 1) := by decide +kernel
theorem dX5_step_0 : decode cX5_step 0 = .ok (.aload_n 0, 1) := by decide +kernel
theorem dX5_step_1 : decode cX5_step 1 = .ok (.getfield 97, 3) := by decide +kernel
theorem dX5_step_4 : decode cX5_step 4 = .ok (.ifCond .ne 6, 3) := by decide +kernel
theorem dX5_step_7 : decode cX5_step 7 = .ok (.bipush (-4), 2) := by decide +kernel
theorem dX5_step_9 : decode cX5_step 9 = .ok (.ireturn, 1) := by decide +kernel
theorem dX5_step_10 : decode cX5_step 10 = .ok (.aload_n 0, 1) := by decide +kernel
theorem dX5_step_11 : decode cX5_step 11 = .ok (.getfield 100, 3) := by decide +kernel
theorem dX5_step_14 : decode cX5_step 14 = .ok (.bipush 40, 2) := by decide +kernel
theorem dX5_step_16 : decode cX5_step 16 = .ok (.if_icmp .ne 6, 3) := by decide +kernel
theorem dX5_step_19 : decode cX5_step 19 = .ok (.bipush (-2), 2) := by decide +kernel
theorem dX5_step_21 : decode cX5_step 21 = .ok (.ireturn, 1) := by decide +kernel
theorem dX5_step_22 : decode cX5_step 22 = .ok (.aload_n 0, 1) := by decide +kernel
theorem dX5_step_23 : decode cX5_step 23 = .ok (.aload_n 0, 1) := by decide +kernel
theorem dX5_step_24 : decode cX5_step 24 = .ok (.invokevirtual 153, 3) := by decide +kernel
theorem dX5_step_27 : decode cX5_step 27 = .ok (.iconst 0, 1) := by decide +kernel
theorem dX5_step_28 : decode cX5_step 28 = .ok (.invokevirtual 156, 3) := by decide +kernel
theorem dX5_step_31 : decode cX5_step 31 = .ok (.istore_n 1, 1) := by decide +kernel
theorem dX5_step_32 : decode cX5_step 32 = .ok (.aload_n 0, 1) := by decide +kernel
theorem dX5_step_33 : decode cX5_step 33 = .ok (.aload_n 0, 1) := by decide +kernel
theorem dX5_step_34 : decode cX5_step 34 = .ok (.getfield 41, 3) := by decide +kernel
theorem dX5_step_37 : decode cX5_step 37 = .ok (.aload_n 0, 1) := by decide +kernel
theorem dX5_step_38 : decode cX5_step 38 = .ok (.invokevirtual 123, 3) := by decide +kernel
theorem dX5_step_41 : decode cX5_step 41 = .ok (.iconst 0, 1) := by decide +kernel
theorem dX5_step_42 : decode cX5_step 42 = .ok (.iadd, 1) := by decide +kernel
theorem dX5_step_43 : decode cX5_step 43 = .ok (.iaload, 1) := by decide +kernel
theorem dX5_step_44 : decode cX5_step 44 = .ok (.putfield 75, 3) := by decide +kernel
theorem dX5_step_47 : decode cX5_step 47 = .ok (.iload_n 1, 1) := by decide +kernel
theorem dX5_step_48 : decode cX5_step 48 = .ok (.ireturn, 1) := by decide +kernel
theorem dX5_hatch_0 : decode cX5_hatch 0 = .ok (.iload_n 1, 1) := by decide +kernel
theorem dX5_hatch_1 : decode cX5_hatch 1 = .ok (.i2l, 1) := by decide +kernel
theorem dX5_hatch_2 : decode cX5_hatch 2 = .ok (.lconst 0, 1) := by decide +kernel
theorem dX5_hatch_3 : decode cX5_hatch 3 = .ok (.ldc2_w 143, 3) := by decide +kernel
theorem dX5_hatch_6 : decode cX5_hatch 6 = .ok (.invokestatic 63, 3) := by decide +kernel
theorem dX5_hatch_9 : decode cX5_hatch 9 = .ok (.ifCond .ne 5, 3) := by decide +kernel
theorem dX5_hatch_12 : decode cX5_hatch 12 = .ok (.iconst (-1), 1) := by decide +kernel
theorem dX5_hatch_13 : decode cX5_hatch 13 = .ok (.ireturn, 1) := by decide +kernel
theorem dX5_hatch_14 : decode cX5_hatch 14 = .ok (.aload_n 0, 1) := by decide +kernel
theorem dX5_hatch_15 : decode cX5_hatch 15 = .ok (.getfield 97, 3) := by decide +kernel
theorem dX5_hatch_18 : decode cX5_hatch 18 = .ok (.ifCond .eq 18, 3) := by decide +kernel
theorem dX5_hatch_21 : decode cX5_hatch 21 = .ok (.aload_n 0, 1) := by decide +kernel
theorem dX5_hatch_22 : decode cX5_hatch 22 = .ok (.getfield 41, 3) := by decide +kernel
theorem dX5_hatch_25 : decode cX5_hatch 25 = .ok (.aload_n 0, 1) := by decide +kernel
theorem dX5_hatch_26 : decode cX5_hatch 26 = .ok (.invokevirtual 123, 3) := by decide +kernel
theorem dX5_hatch_29 : decode cX5_hatch 29 = .ok (.iconst 1, 1) := by decide +kernel
theorem dX5_hatch_30 : decode cX5_hatch 30 = .ok (.iadd, 1) := by decide +kernel
theorem dX5_hatch_31 : decode cX5_hatch 31 = .ok (.iaload, 1) := by decide +kernel
theorem dX5_hatch_32 : decode cX5_hatch 32 = .ok (.iload_n 1, 1) := by decide +kernel
theorem dX5_hatch_33 : decode cX5_hatch 33 = .ok (.if_icmp .ne 6, 3) := by decide +kernel
theorem dX5_hatch_36 : decode cX5_hatch 36 = .ok (.bipush (-4), 2) := by decide +kernel
theorem dX5_hatch_38 : decode cX5_hatch 38 = .ok (.ireturn, 1) := by decide +kernel
theorem dX5_hatch_39 : decode cX5_hatch 39 = .ok (.aload_n 0, 1) := by decide +kernel
theorem dX5_hatch_40 : decode cX5_hatch 40 = .ok (.getfield 100, 3) := by decide +kernel
theorem dX5_hatch_43 : decode cX5_hatch 43 = .ok (.bipush 40, 2) := by decide +kernel
theorem dX5_hatch_45 : decode cX5_hatch 45 = .ok (.if_icmp .ne 6, 3) := by decide +kernel
theorem dX5_hatch_48 : decode cX5_hatch 48 = .ok (.bipush (-2), 2) := by decide +kernel
theorem dX5_hatch_50 : decode cX5_hatch 50 = .ok (.ireturn, 1) := by decide +kernel
theorem dX5_hatch_51 : decode cX5_hatch 51 = .ok (.aload_n 0, 1) := by decide +kernel
theorem dX5_hatch_52 : decode cX5_hatch 52 = .ok (.getfield 41, 3) := by decide +kernel
theorem dX5_hatch_55 : decode cX5_hatch 55 = .ok (.aload_n 0, 1) := by decide +kernel
theorem dX5_hatch_56 : decode cX5_hatch 56 = .ok (.invokevirtual 123, 3) := by decide +kernel
theorem dX5_hatch_59 : decode cX5_hatch 59 = .ok (.iconst 1, 1) := by decide +kernel
theorem dX5_hatch_60 : decode cX5_hatch 60 = .ok (.iadd, 1) := by decide +kernel
theorem dX5_hatch_61 : decode cX5_hatch 61 = .ok (.iaload, 1) := by decide +kernel
theorem dX5_hatch_62 : decode cX5_hatch 62 = .ok (.istore_n 2, 1) := by decide +kernel
theorem dX5_hatch_63 : decode cX5_hatch 63 = .ok (.aload_n 0, 1) := by decide +kernel
theorem dX5_hatch_64 : decode cX5_hatch 64 = .ok (.getfield 41, 3) := by decide +kernel
theorem dX5_hatch_67 : decode cX5_hatch 67 = .ok (.aload_n 0, 1) := by decide +kernel
theorem dX5_hatch_68 : decode cX5_hatch 68 = .ok (.invokevirtual 153, 3) := by decide +kernel
theorem dX5_hatch_71 : decode cX5_hatch 71 = .ok (.iconst 1, 1) := by decide +kernel
theorem dX5_hatch_72 : decode cX5_hatch 72 = .ok (.iadd, 1) := by decide +kernel
theorem dX5_hatch_73 : decode cX5_hatch 73 = .ok (.iload_n 1, 1) := by decide +kernel
theorem dX5_hatch_74 : decode cX5_hatch 74 = .ok (.iastore, 1) := by decide +kernel
theorem dX5_hatch_75 : decode cX5_hatch 75 = .ok (.iload_n 2, 1) := by decide +kernel
theorem dX5_hatch_76 : decode cX5_hatch 76 = .ok (.ireturn, 1) := by decide +kernel
theorem dX5_rake_0 : decode cX5_rake 0 = .ok (.aload_n 0, 1) := by decide +kernel
theorem dX5_rake_1 : decode cX5_rake 1 = .ok (.getfield 97, 3) := by decide +kernel
theorem dX5_rake_4 : decode cX5_rake 4 = .ok (.ifCond .eq 17, 3) := by decide +kernel
theorem dX5_rake_7 : decode cX5_rake 7 = .ok (.aload_n 0, 1) := by decide +kernel
theorem dX5_rake_8 : decode cX5_rake 8 = .ok (.getfield 41, 3) := by decide +kernel
theorem dX5_rake_11 : decode cX5_rake 11 = .ok (.aload_n 0, 1) := by decide +kernel
theorem dX5_rake_12 : decode cX5_rake 12 = .ok (.invokevirtual 123, 3) := by decide +kernel
theorem dX5_rake_15 : decode cX5_rake 15 = .ok (.iconst 2, 1) := by decide +kernel
theorem dX5_rake_16 : decode cX5_rake 16 = .ok (.iadd, 1) := by decide +kernel
theorem dX5_rake_17 : decode cX5_rake 17 = .ok (.iaload, 1) := by decide +kernel
theorem dX5_rake_18 : decode cX5_rake 18 = .ok (.ifCond .ne 6, 3) := by decide +kernel
theorem dX5_rake_21 : decode cX5_rake 21 = .ok (.bipush (-4), 2) := by decide +kernel
theorem dX5_rake_23 : decode cX5_rake 23 = .ok (.ireturn, 1) := by decide +kernel
theorem dX5_rake_24 : decode cX5_rake 24 = .ok (.aload_n 0, 1) := by decide +kernel
theorem dX5_rake_25 : decode cX5_rake 25 = .ok (.getfield 100, 3) := by decide +kernel
theorem dX5_rake_28 : decode cX5_rake 28 = .ok (.bipush 40, 2) := by decide +kernel
theorem dX5_rake_30 : decode cX5_rake 30 = .ok (.if_icmp .ne 6, 3) := by decide +kernel
theorem dX5_rake_33 : decode cX5_rake 33 = .ok (.bipush (-2), 2) := by decide +kernel
theorem dX5_rake_35 : decode cX5_rake 35 = .ok (.ireturn, 1) := by decide +kernel
theorem dX5_rake_36 : decode cX5_rake 36 = .ok (.aload_n 0, 1) := by decide +kernel
theorem dX5_rake_37 : decode cX5_rake 37 = .ok (.getfield 41, 3) := by decide +kernel
theorem dX5_rake_40 : decode cX5_rake 40 = .ok (.aload_n 0, 1) := by decide +kernel
theorem dX5_rake_41 : decode cX5_rake 41 = .ok (.invokevirtual 123, 3) := by decide +kernel
theorem dX5_rake_44 : decode cX5_rake 44 = .ok (.iconst 2, 1) := by decide +kernel
theorem dX5_rake_45 : decode cX5_rake 45 = .ok (.iadd, 1) := by decide +kernel
theorem dX5_rake_46 : decode cX5_rake 46 = .ok (.iaload, 1) := by decide +kernel
theorem dX5_rake_47 : decode cX5_rake 47 = .ok (.istore_n 1, 1) := by decide +kernel
theorem dX5_rake_48 : decode cX5_rake 48 = .ok (.aload_n 0, 1) := by decide +kernel
theorem dX5_rake_49 : decode cX5_rake 49 = .ok (.getfield 41, 3) := by decide +kernel
theorem dX5_rake_52 : decode cX5_rake 52 = .ok (.aload_n 0, 1) := by decide +kernel
theorem dX5_rake_53 : decode cX5_rake 53 = .ok (.invokevirtual 153, 3) := by decide +kernel
theorem dX5_rake_56 : decode cX5_rake 56 = .ok (.iconst 2, 1) := by decide +kernel
theorem dX5_rake_57 : decode cX5_rake 57 = .ok (.iadd, 1) := by decide +kernel
theorem dX5_rake_58 : decode cX5_rake 58 = .ok (.iconst 0, 1) := by decide +kernel
theorem dX5_rake_59 : decode cX5_rake 59 = .ok (.iastore, 1) := by decide +kernel
theorem dX5_rake_60 : decode cX5_rake 60 = .ok (.iload_n 1, 1) := by decide +kernel
theorem dX5_rake_61 : decode cX5_rake 61 = .ok (.ireturn, 1) := by decide +kernel
theorem dX5_fish_0 : decode cX5_fish 0 = .ok (.aload_n 0, 1) := by decide +kernel
theorem dX5_fish_1 : decode cX5_fish 1 = .ok (.iload_n 1, 1) := by decide +kernel
theorem dX5_fish_2 : decode cX5_fish 2 = .ok (.invokevirtual 133, 3) := by decide +kernel
theorem dX5_fish_5 : decode cX5_fish 5 = .ok (.ifCond .ne 5, 3) := by decide +kernel
theorem dX5_fish_8 : decode cX5_fish 8 = .ok (.iconst (-1), 1) := by decide +kernel
theorem dX5_fish_9 : decode cX5_fish 9 = .ok (.ireturn, 1) := by decide +kernel
theorem dX5_fish_10 : decode cX5_fish 10 = .ok (.aload_n 0, 1) := by decide +kernel
theorem dX5_fish_11 : decode cX5_fish 11 = .ok (.getfield 41, 3) := by decide +kernel
theorem dX5_fish_14 : decode cX5_fish 14 = .ok (.aload_n 0, 1) := by decide +kernel
theorem dX5_fish_15 : decode cX5_fish 15 = .ok (.invokevirtual 123, 3) := by decide +kernel
theorem dX5_fish_18 : decode cX5_fish 18 = .ok (.iconst 5, 1) := by decide +kernel
theorem dX5_fish_19 : decode cX5_fish 19 = .ok (.iadd, 1) := by decide +kernel
theorem dX5_fish_20 : decode cX5_fish 20 = .ok (.iaload, 1) := by decide +kernel
theorem dX5_fish_21 : decode cX5_fish 21 = .ok (.iload_n 1, 1) := by decide +kernel
theorem dX5_fish_22 : decode cX5_fish 22 = .ok (.invokestatic 109, 3) := by decide +kernel
theorem dX5_fish_25 : decode cX5_fish 25 = .ok (.ifCond .eq 6, 3) := by decide +kernel
theorem dX5_fish_28 : decode cX5_fish 28 = .ok (.bipush (-4), 2) := by decide +kernel
theorem dX5_fish_30 : decode cX5_fish 30 = .ok (.ireturn, 1) := by decide +kernel
theorem dX5_fish_31 : decode cX5_fish 31 = .ok (.aload_n 0, 1) := by decide +kernel
theorem dX5_fish_32 : decode cX5_fish 32 = .ok (.getfield 100, 3) := by decide +kernel
theorem dX5_fish_35 : decode cX5_fish 35 = .ok (.bipush 40, 2) := by decide +kernel
theorem dX5_fish_37 : decode cX5_fish 37 = .ok (.if_icmp .ne 6, 3) := by decide +kernel
theorem dX5_fish_40 : decode cX5_fish 40 = .ok (.bipush (-2), 2) := by decide +kernel
theorem dX5_fish_42 : decode cX5_fish 42 = .ok (.ireturn, 1) := by decide +kernel
theorem dX5_fish_43 : decode cX5_fish 43 = .ok (.aload_n 0, 1) := by decide +kernel
theorem dX5_fish_44 : decode cX5_fish 44 = .ok (.getfield 41, 3) := by decide +kernel
theorem dX5_fish_47 : decode cX5_fish 47 = .ok (.aload_n 0, 1) := by decide +kernel
theorem dX5_fish_48 : decode cX5_fish 48 = .ok (.invokevirtual 153, 3) := by decide +kernel
theorem dX5_fish_51 : decode cX5_fish 51 = .ok (.iconst 5, 1) := by decide +kernel
theorem dX5_fish_52 : decode cX5_fish 52 = .ok (.iadd, 1) := by decide +kernel
theorem dX5_fish_53 : decode cX5_fish 53 = .ok (.dup2, 1) := by decide +kernel
theorem dX5_fish_54 : decode cX5_fish 54 = .ok (.iaload, 1) := by decide +kernel
theorem dX5_fish_55 : decode cX5_fish 55 = .ok (.iconst 1, 1) := by decide +kernel
theorem dX5_fish_56 : decode cX5_fish 56 = .ok (.iload_n 1, 1) := by decide +kernel
theorem dX5_fish_57 : decode cX5_fish 57 = .ok (.ishl, 1) := by decide +kernel
theorem dX5_fish_58 : decode cX5_fish 58 = .ok (.ior, 1) := by decide +kernel
theorem dX5_fish_59 : decode cX5_fish 59 = .ok (.iastore, 1) := by decide +kernel
theorem dX5_fish_60 : decode cX5_fish 60 = .ok (.aload_n 0, 1) := by decide +kernel
theorem dX5_fish_61 : decode cX5_fish 61 = .ok (.getfield 29, 3) := by decide +kernel
theorem dX5_fish_64 : decode cX5_fish 64 = .ok (.iload_n 1, 1) := by decide +kernel
theorem dX5_fish_65 : decode cX5_fish 65 = .ok (.iaload, 1) := by decide +kernel
theorem dX5_fish_66 : decode cX5_fish 66 = .ok (.ireturn, 1) := by decide +kernel
theorem dX5_undo_0 : decode cX5_undo 0 = .ok (.iload_n 1, 1) := by decide +kernel
theorem dX5_undo_1 : decode cX5_undo 1 = .ok (.i2l, 1) := by decide +kernel
theorem dX5_undo_2 : decode cX5_undo 2 = .ok (.lconst 0, 1) := by decide +kernel
theorem dX5_undo_3 : decode cX5_undo 3 = .ok (.aload_n 0, 1) := by decide +kernel
theorem dX5_undo_4 : decode cX5_undo 4 = .ok (.getfield 100, 3) := by decide +kernel
theorem dX5_undo_7 : decode cX5_undo 7 = .ok (.i2l, 1) := by decide +kernel
theorem dX5_undo_8 : decode cX5_undo 8 = .ok (.invokestatic 63, 3) := by decide +kernel
theorem dX5_undo_11 : decode cX5_undo 11 = .ok (.ifCond .ne 5, 3) := by decide +kernel
theorem dX5_undo_14 : decode cX5_undo 14 = .ok (.iconst (-1), 1) := by decide +kernel
theorem dX5_undo_15 : decode cX5_undo 15 = .ok (.ireturn, 1) := by decide +kernel
theorem dX5_undo_16 : decode cX5_undo 16 = .ok (.aload_n 0, 1) := by decide +kernel
theorem dX5_undo_17 : decode cX5_undo 17 = .ok (.getfield 100, 3) := by decide +kernel
theorem dX5_undo_20 : decode cX5_undo 20 = .ok (.iload_n 1, 1) := by decide +kernel
theorem dX5_undo_21 : decode cX5_undo 21 = .ok (.isub, 1) := by decide +kernel
theorem dX5_undo_22 : decode cX5_undo 22 = .ok (.istore_n 2, 1) := by decide +kernel
theorem dX5_undo_23 : decode cX5_undo 23 = .ok (.aload_n 0, 1) := by decide +kernel
theorem dX5_undo_24 : decode cX5_undo 24 = .ok (.iload_n 1, 1) := by decide +kernel
theorem dX5_undo_25 : decode cX5_undo 25 = .ok (.putfield 100, 3) := by decide +kernel
theorem dX5_undo_28 : decode cX5_undo 28 = .ok (.iload_n 2, 1) := by decide +kernel
theorem dX5_undo_29 : decode cX5_undo 29 = .ok (.ireturn, 1) := by decide +kernel
theorem dX5_keep_0 : decode cX5_keep 0 = .ok (.iload_n 1, 1) := by decide +kernel
theorem dX5_keep_1 : decode cX5_keep 1 = .ok (.i2l, 1) := by decide +kernel
theorem dX5_keep_2 : decode cX5_keep 2 = .ok (.lconst 0, 1) := by decide +kernel
theorem dX5_keep_3 : decode cX5_keep 3 = .ok (.ldc2_w 160, 3) := by decide +kernel
theorem dX5_keep_6 : decode cX5_keep 6 = .ok (.invokestatic 63, 3) := by decide +kernel
theorem dX5_keep_9 : decode cX5_keep 9 = .ok (.ifCond .ne 5, 3) := by decide +kernel
theorem dX5_keep_12 : decode cX5_keep 12 = .ok (.iconst (-1), 1) := by decide +kernel
theorem dX5_keep_13 : decode cX5_keep 13 = .ok (.ireturn, 1) := by decide +kernel
theorem dX5_keep_14 : decode cX5_keep 14 = .ok (.aload_n 0, 1) := by decide +kernel
theorem dX5_keep_15 : decode cX5_keep 15 = .ok (.getfield 97, 3) := by decide +kernel
theorem dX5_keep_18 : decode cX5_keep 18 = .ok (.ifCond .ne 6, 3) := by decide +kernel
theorem dX5_keep_21 : decode cX5_keep 21 = .ok (.bipush (-4), 2) := by decide +kernel
theorem dX5_keep_23 : decode cX5_keep 23 = .ok (.ireturn, 1) := by decide +kernel
theorem dX5_keep_24 : decode cX5_keep 24 = .ok (.iconst 0, 1) := by decide +kernel
theorem dX5_keep_25 : decode cX5_keep 25 = .ok (.istore_n 2, 1) := by decide +kernel
theorem dX5_keep_26 : decode cX5_keep 26 = .ok (.iload_n 2, 1) := by decide +kernel
theorem dX5_keep_27 : decode cX5_keep 27 = .ok (.sipush 246, 3) := by decide +kernel
theorem dX5_keep_30 : decode cX5_keep 30 = .ok (.if_icmp .ge 29, 3) := by decide +kernel
theorem dX5_keep_33 : decode cX5_keep 33 = .ok (.aload_n 0, 1) := by decide +kernel
theorem dX5_keep_34 : decode cX5_keep 34 = .ok (.getfield 41, 3) := by decide +kernel
theorem dX5_keep_37 : decode cX5_keep 37 = .ok (.sipush 246, 3) := by decide +kernel
theorem dX5_keep_40 : decode cX5_keep 40 = .ok (.iload_n 1, 1) := by decide +kernel
theorem dX5_keep_41 : decode cX5_keep 41 = .ok (.iconst 1, 1) := by decide +kernel
theorem dX5_keep_42 : decode cX5_keep 42 = .ok (.iadd, 1) := by decide +kernel
theorem dX5_keep_43 : decode cX5_keep 43 = .ok (.imul, 1) := by decide +kernel
theorem dX5_keep_44 : decode cX5_keep 44 = .ok (.iload_n 2, 1) := by decide +kernel
theorem dX5_keep_45 : decode cX5_keep 45 = .ok (.iadd, 1) := by decide +kernel
theorem dX5_keep_46 : decode cX5_keep 46 = .ok (.aload_n 0, 1) := by decide +kernel
theorem dX5_keep_47 : decode cX5_keep 47 = .ok (.getfield 41, 3) := by decide +kernel
theorem dX5_keep_50 : decode cX5_keep 50 = .ok (.iload_n 2, 1) := by decide +kernel
theorem dX5_keep_51 : decode cX5_keep 51 = .ok (.iaload, 1) := by decide +kernel
theorem dX5_keep_52 : decode cX5_keep 52 = .ok (.iastore, 1) := by decide +kernel
theorem dX5_keep_53 : decode cX5_keep 53 = .ok (.iinc 2 1, 3) := by decide +kernel
theorem dX5_keep_56 : decode cX5_keep 56 = .ok (.goto (-30), 3) := by decide +kernel
theorem dX5_keep_59 : decode cX5_keep 59 = .ok (.aload_n 0, 1) := by decide +kernel
theorem dX5_keep_60 : decode cX5_keep 60 = .ok (.getfield 44, 3) := by decide +kernel
theorem dX5_keep_63 : decode cX5_keep 63 = .ok (.iload_n 1, 1) := by decide +kernel
theorem dX5_keep_64 : decode cX5_keep 64 = .ok (.aload_n 0, 1) := by decide +kernel
theorem dX5_keep_65 : decode cX5_keep 65 = .ok (.getfield 100, 3) := by decide +kernel
theorem dX5_keep_68 : decode cX5_keep 68 = .ok (.iastore, 1) := by decide +kernel
theorem dX5_keep_69 : decode cX5_keep 69 = .ok (.aload_n 0, 1) := by decide +kernel
theorem dX5_keep_70 : decode cX5_keep 70 = .ok (.getfield 100, 3) := by decide +kernel
theorem dX5_keep_73 : decode cX5_keep 73 = .ok (.ireturn, 1) := by decide +kernel
theorem dX5_on_0 : decode cX5_on 0 = .ok (.iload_n 1, 1) := by decide +kernel
theorem dX5_on_1 : decode cX5_on 1 = .ok (.i2l, 1) := by decide +kernel
theorem dX5_on_2 : decode cX5_on 2 = .ok (.lconst 0, 1) := by decide +kernel
theorem dX5_on_3 : decode cX5_on 3 = .ok (.ldc2_w 160, 3) := by decide +kernel
theorem dX5_on_6 : decode cX5_on 6 = .ok (.invokestatic 63, 3) := by decide +kernel
theorem dX5_on_9 : decode cX5_on 9 = .ok (.ifCond .ne 5, 3) := by decide +kernel
theorem dX5_on_12 : decode cX5_on 12 = .ok (.iconst (-1), 1) := by decide +kernel
theorem dX5_on_13 : decode cX5_on 13 = .ok (.ireturn, 1) := by decide +kernel
theorem dX5_on_14 : decode cX5_on 14 = .ok (.aload_n 0, 1) := by decide +kernel
theorem dX5_on_15 : decode cX5_on 15 = .ok (.getfield 44, 3) := by decide +kernel
theorem dX5_on_18 : decode cX5_on 18 = .ok (.iload_n 1, 1) := by decide +kernel
theorem dX5_on_19 : decode cX5_on 19 = .ok (.iaload, 1) := by decide +kernel
theorem dX5_on_20 : decode cX5_on 20 = .ok (.ifCond .ge 9, 3) := by decide +kernel
theorem dX5_on_23 : decode cX5_on 23 = .ok (.aload_n 0, 1) := by decide +kernel
theorem dX5_on_24 : decode cX5_on 24 = .ok (.iconst 1, 1) := by decide +kernel
theorem dX5_on_25 : decode cX5_on 25 = .ok (.invokevirtual 67, 3) := by decide +kernel
theorem dX5_on_28 : decode cX5_on 28 = .ok (.ireturn, 1) := by decide +kernel
theorem dX5_on_29 : decode cX5_on 29 = .ok (.iconst 0, 1) := by decide +kernel
theorem dX5_on_30 : decode cX5_on 30 = .ok (.istore_n 2, 1) := by decide +kernel
theorem dX5_on_31 : decode cX5_on 31 = .ok (.iload_n 2, 1) := by decide +kernel
theorem dX5_on_32 : decode cX5_on 32 = .ok (.sipush 246, 3) := by decide +kernel
theorem dX5_on_35 : decode cX5_on 35 = .ok (.if_icmp .ge 29, 3) := by decide +kernel
theorem dX5_on_38 : decode cX5_on 38 = .ok (.aload_n 0, 1) := by decide +kernel
theorem dX5_on_39 : decode cX5_on 39 = .ok (.getfield 41, 3) := by decide +kernel
theorem dX5_on_42 : decode cX5_on 42 = .ok (.iload_n 2, 1) := by decide +kernel
theorem dX5_on_43 : decode cX5_on 43 = .ok (.aload_n 0, 1) := by decide +kernel
theorem dX5_on_44 : decode cX5_on 44 = .ok (.getfield 41, 3) := by decide +kernel
theorem dX5_on_47 : decode cX5_on 47 = .ok (.sipush 246, 3) := by decide +kernel
theorem dX5_on_50 : decode cX5_on 50 = .ok (.iload_n 1, 1) := by decide +kernel
theorem dX5_on_51 : decode cX5_on 51 = .ok (.iconst 1, 1) := by decide +kernel
theorem dX5_on_52 : decode cX5_on 52 = .ok (.iadd, 1) := by decide +kernel
theorem dX5_on_53 : decode cX5_on 53 = .ok (.imul, 1) := by decide +kernel
theorem dX5_on_54 : decode cX5_on 54 = .ok (.iload_n 2, 1) := by decide +kernel
theorem dX5_on_55 : decode cX5_on 55 = .ok (.iadd, 1) := by decide +kernel
theorem dX5_on_56 : decode cX5_on 56 = .ok (.iaload, 1) := by decide +kernel
theorem dX5_on_57 : decode cX5_on 57 = .ok (.iastore, 1) := by decide +kernel
theorem dX5_on_58 : decode cX5_on 58 = .ok (.iinc 2 1, 3) := by decide +kernel
theorem dX5_on_61 : decode cX5_on 61 = .ok (.goto (-30), 3) := by decide +kernel
theorem dX5_on_64 : decode cX5_on 64 = .ok (.aload_n 0, 1) := by decide +kernel
theorem dX5_on_65 : decode cX5_on 65 = .ok (.aload_n 0, 1) := by decide +kernel
theorem dX5_on_66 : decode cX5_on 66 = .ok (.getfield 44, 3) := by decide +kernel
theorem dX5_on_69 : decode cX5_on 69 = .ok (.iload_n 1, 1) := by decide +kernel
theorem dX5_on_70 : decode cX5_on 70 = .ok (.iaload, 1) := by decide +kernel
theorem dX5_on_71 : decode cX5_on 71 = .ok (.putfield 100, 3) := by decide +kernel
theorem dX5_on_74 : decode cX5_on 74 = .ok (.aload_n 0, 1) := by decide +kernel
theorem dX5_on_75 : decode cX5_on 75 = .ok (.getfield 100, 3) := by decide +kernel
theorem dX5_on_78 : decode cX5_on 78 = .ok (.ireturn, 1) := by decide +kernel
theorem dX5_tries_0 : decode cX5_tries 0 = .ok (.aload_n 0, 1) := by decide +kernel
theorem dX5_tries_1 : decode cX5_tries 1 = .ok (.aload_n 0, 1) := by decide +kernel
theorem dX5_tries_2 : decode cX5_tries 2 = .ok (.invokevirtual 123, 3) := by decide +kernel
theorem dX5_tries_5 : decode cX5_tries 5 = .ok (.sipush 984, 3) := by decide +kernel
theorem dX5_tries_8 : decode cX5_tries 8 = .ok (.invokevirtual 150, 3) := by decide +kernel
theorem dX5_tries_11 : decode cX5_tries 11 = .ok (.return_, 1) := by decide +kernel
theorem dX5_many_0 : decode cX5_many 0 = .ok (.iconst 0, 1) := by decide +kernel
theorem dX5_many_1 : decode cX5_many 1 = .ok (.istore_n 2, 1) := by decide +kernel
theorem dX5_many_2 : decode cX5_many 2 = .ok (.iconst 0, 1) := by decide +kernel
theorem dX5_many_3 : decode cX5_many 3 = .ok (.istore_n 3, 1) := by decide +kernel
theorem dX5_many_4 : decode cX5_many 4 = .ok (.iload_n 3, 1) := by decide +kernel
theorem dX5_many_5 : decode cX5_many 5 = .ok (.iload_n 1, 1) := by decide +kernel
theorem dX5_many_6 : decode cX5_many 6 = .ok (.if_icmp .ge 20, 3) := by decide +kernel
theorem dX5_many_9 : decode cX5_many 9 = .ok (.iload_n 2, 1) := by decide +kernel
theorem dX5_many_10 : decode cX5_many 10 = .ok (.aload_n 0, 1) := by decide +kernel
theorem dX5_many_11 : decode cX5_many 11 = .ok (.sipush 984, 3) := by decide +kernel
theorem dX5_many_14 : decode cX5_many 14 = .ok (.iconst 0, 1) := by decide +kernel
theorem dX5_many_15 : decode cX5_many 15 = .ok (.invokevirtual 156, 3) := by decide +kernel
theorem dX5_many_18 : decode cX5_many 18 = .ok (.iadd, 1) := by decide +kernel
theorem dX5_many_19 : decode cX5_many 19 = .ok (.istore_n 2, 1) := by decide +kernel
theorem dX5_many_20 : decode cX5_many 20 = .ok (.iinc 3 1, 3) := by decide +kernel
theorem dX5_many_23 : decode cX5_many 23 = .ok (.goto (-19), 3) := by decide +kernel
theorem dX5_many_26 : decode cX5_many 26 = .ok (.iload_n 2, 1) := by decide +kernel
theorem dX5_many_27 : decode cX5_many 27 = .ok (.ireturn, 1) := by decide +kernel
theorem dX5_mill_0 : decode cX5_mill 0 = .ok (.iload_n 1, 1) := by decide +kernel
theorem dX5_mill_1 : decode cX5_mill 1 = .ok (.i2l, 1) := by decide +kernel
theorem dX5_mill_2 : decode cX5_mill 2 = .ok (.lconst 0, 1) := by decide +kernel
theorem dX5_mill_3 : decode cX5_mill 3 = .ok (.ldc2_w 162, 3) := by decide +kernel
theorem dX5_mill_6 : decode cX5_mill 6 = .ok (.invokestatic 63, 3) := by decide +kernel
theorem dX5_mill_9 : decode cX5_mill 9 = .ok (.ifCond .ne 5, 3) := by decide +kernel
theorem dX5_mill_12 : decode cX5_mill 12 = .ok (.iconst (-1), 1) := by decide +kernel
theorem dX5_mill_13 : decode cX5_mill 13 = .ok (.ireturn, 1) := by decide +kernel
theorem dX5_mill_14 : decode cX5_mill 14 = .ok (.aload_n 0, 1) := by decide +kernel
theorem dX5_mill_15 : decode cX5_mill 15 = .ok (.getfield 97, 3) := by decide +kernel
theorem dX5_mill_18 : decode cX5_mill 18 = .ok (.ifCond .ne 6, 3) := by decide +kernel
theorem dX5_mill_21 : decode cX5_mill 21 = .ok (.bipush (-4), 2) := by decide +kernel
theorem dX5_mill_23 : decode cX5_mill 23 = .ok (.ireturn, 1) := by decide +kernel
theorem dX5_mill_24 : decode cX5_mill 24 = .ok (.aload_n 0, 1) := by decide +kernel
theorem dX5_mill_25 : decode cX5_mill 25 = .ok (.invokevirtual 164, 3) := by decide +kernel
theorem dX5_mill_28 : decode cX5_mill 28 = .ok (.aload_n 0, 1) := by decide +kernel
theorem dX5_mill_29 : decode cX5_mill 29 = .ok (.iload_n 1, 1) := by decide +kernel
theorem dX5_mill_30 : decode cX5_mill 30 = .ok (.invokevirtual 167, 3) := by decide +kernel
theorem dX5_mill_33 : decode cX5_mill 33 = .ok (.istore_n 2, 1) := by decide +kernel
theorem dX5_mill_34 : decode cX5_mill 34 = .ok (.aload_n 0, 1) := by decide +kernel
theorem dX5_mill_35 : decode cX5_mill 35 = .ok (.aload_n 0, 1) := by decide +kernel
theorem dX5_mill_36 : decode cX5_mill 36 = .ok (.getfield 41, 3) := by decide +kernel
theorem dX5_mill_39 : decode cX5_mill 39 = .ok (.sipush 984, 3) := by decide +kernel
theorem dX5_mill_42 : decode cX5_mill 42 = .ok (.iaload, 1) := by decide +kernel
theorem dX5_mill_43 : decode cX5_mill 43 = .ok (.putfield 75, 3) := by decide +kernel
theorem dX5_mill_46 : decode cX5_mill 46 = .ok (.iload_n 2, 1) := by decide +kernel
theorem dX5_mill_47 : decode cX5_mill 47 = .ok (.ireturn, 1) := by decide +kernel
theorem dX5_turns_0 : decode cX5_turns 0 = .ok (.aload_n 0, 1) := by decide +kernel
theorem dX5_turns_1 : decode cX5_turns 1 = .ok (.getfield 97, 3) := by decide +kernel
theorem dX5_turns_4 : decode cX5_turns 4 = .ok (.ifCond .ne 6, 3) := by decide +kernel
theorem dX5_turns_7 : decode cX5_turns 7 = .ok (.bipush (-4), 2) := by decide +kernel
theorem dX5_turns_9 : decode cX5_turns 9 = .ok (.ireturn, 1) := by decide +kernel
theorem dX5_turns_10 : decode cX5_turns 10 = .ok (.aload_n 0, 1) := by decide +kernel
theorem dX5_turns_11 : decode cX5_turns 11 = .ok (.invokevirtual 164, 3) := by decide +kernel
theorem dX5_turns_14 : decode cX5_turns 14 = .ok (.iconst 1, 1) := by decide +kernel
theorem dX5_turns_15 : decode cX5_turns 15 = .ok (.istore_n 1, 1) := by decide +kernel
theorem dX5_turns_16 : decode cX5_turns 16 = .ok (.iload_n 1, 1) := by decide +kernel
theorem dX5_turns_17 : decode cX5_turns 17 = .ok (.bipush 60, 2) := by decide +kernel
theorem dX5_turns_19 : decode cX5_turns 19 = .ok (.if_icmp .gt 36, 3) := by decide +kernel
theorem dX5_turns_22 : decode cX5_turns 22 = .ok (.aload_n 0, 1) := by decide +kernel
theorem dX5_turns_23 : decode cX5_turns 23 = .ok (.getfield 41, 3) := by decide +kernel
theorem dX5_turns_26 : decode cX5_turns 26 = .ok (.sipush 984, 3) := by decide +kernel
theorem dX5_turns_29 : decode cX5_turns 29 = .ok (.iaload, 1) := by decide +kernel
theorem dX5_turns_30 : decode cX5_turns 30 = .ok (.istore_n 2, 1) := by decide +kernel
theorem dX5_turns_31 : decode cX5_turns 31 = .ok (.aload_n 0, 1) := by decide +kernel
theorem dX5_turns_32 : decode cX5_turns 32 = .ok (.sipush 984, 3) := by decide +kernel
theorem dX5_turns_35 : decode cX5_turns 35 = .ok (.iconst 0, 1) := by decide +kernel
theorem dX5_turns_36 : decode cX5_turns 36 = .ok (.invokevirtual 156, 3) := by decide +kernel
theorem dX5_turns_39 : decode cX5_turns 39 = .ok (.ifCond .ne 10, 3) := by decide +kernel
theorem dX5_turns_42 : decode cX5_turns 42 = .ok (.aload_n 0, 1) := by decide +kernel
theorem dX5_turns_43 : decode cX5_turns 43 = .ok (.iload_n 2, 1) := by decide +kernel
theorem dX5_turns_44 : decode cX5_turns 44 = .ok (.putfield 75, 3) := by decide +kernel
theorem dX5_turns_47 : decode cX5_turns 47 = .ok (.iload_n 1, 1) := by decide +kernel
theorem dX5_turns_48 : decode cX5_turns 48 = .ok (.ireturn, 1) := by decide +kernel
theorem dX5_turns_49 : decode cX5_turns 49 = .ok (.iinc 1 1, 3) := by decide +kernel
theorem dX5_turns_52 : decode cX5_turns 52 = .ok (.goto (-36), 3) := by decide +kernel
theorem dX5_turns_55 : decode cX5_turns 55 = .ok (.bipush (-9), 2) := by decide +kernel
theorem dX5_turns_57 : decode cX5_turns 57 = .ok (.ireturn, 1) := by decide +kernel
theorem dX5_book_0 : decode cX5_book 0 = .ok (.iload_n 1, 1) := by decide +kernel
theorem dX5_book_1 : decode cX5_book 1 = .ok (.i2l, 1) := by decide +kernel
theorem dX5_book_2 : decode cX5_book 2 = .ok (.lconst 1, 1) := by decide +kernel
theorem dX5_book_3 : decode cX5_book 3 = .ok (.ldc2_w 170, 3) := by decide +kernel
theorem dX5_book_6 : decode cX5_book 6 = .ok (.invokestatic 63, 3) := by decide +kernel
theorem dX5_book_9 : decode cX5_book 9 = .ok (.ifCond .eq 15, 3) := by decide +kernel
theorem dX5_book_12 : decode cX5_book 12 = .ok (.iload_n 2, 1) := by decide +kernel
theorem dX5_book_13 : decode cX5_book 13 = .ok (.i2l, 1) := by decide +kernel
theorem dX5_book_14 : decode cX5_book 14 = .ok (.lconst 0, 1) := by decide +kernel
theorem dX5_book_15 : decode cX5_book 15 = .ok (.ldc2_w 61, 3) := by decide +kernel
theorem dX5_book_18 : decode cX5_book 18 = .ok (.invokestatic 63, 3) := by decide +kernel
theorem dX5_book_21 : decode cX5_book 21 = .ok (.ifCond .ne 5, 3) := by decide +kernel
theorem dX5_book_24 : decode cX5_book 24 = .ok (.iconst (-1), 1) := by decide +kernel
theorem dX5_book_25 : decode cX5_book 25 = .ok (.ireturn, 1) := by decide +kernel
theorem dX5_book_26 : decode cX5_book 26 = .ok (.aload_n 0, 1) := by decide +kernel
theorem dX5_book_27 : decode cX5_book 27 = .ok (.getfield 97, 3) := by decide +kernel
theorem dX5_book_30 : decode cX5_book 30 = .ok (.ifCond .ne 6, 3) := by decide +kernel
theorem dX5_book_33 : decode cX5_book 33 = .ok (.bipush (-4), 2) := by decide +kernel
theorem dX5_book_35 : decode cX5_book 35 = .ok (.ireturn, 1) := by decide +kernel
theorem dX5_book_36 : decode cX5_book 36 = .ok (.aload_n 0, 1) := by decide +kernel
theorem dX5_book_37 : decode cX5_book 37 = .ok (.iload_n 2, 1) := by decide +kernel
theorem dX5_book_38 : decode cX5_book 38 = .ok (.iload_n 1, 1) := by decide +kernel
theorem dX5_book_39 : decode cX5_book 39 = .ok (.invokevirtual 71, 3) := by decide +kernel
theorem dX5_book_42 : decode cX5_book 42 = .ok (.aload_n 0, 1) := by decide +kernel
theorem dX5_book_43 : decode cX5_book 43 = .ok (.invokevirtual 164, 3) := by decide +kernel
theorem dX5_book_46 : decode cX5_book 46 = .ok (.aload_n 0, 1) := by decide +kernel
theorem dX5_book_47 : decode cX5_book 47 = .ok (.iconst 0, 1) := by decide +kernel
theorem dX5_book_48 : decode cX5_book 48 = .ok (.putfield 147, 3) := by decide +kernel
theorem dX5_book_51 : decode cX5_book 51 = .ok (.iconst 0, 1) := by decide +kernel
theorem dX5_book_52 : decode cX5_book 52 = .ok (.istore_n 3, 1) := by decide +kernel
theorem dX5_book_53 : decode cX5_book 53 = .ok (.iload_n 3, 1) := by decide +kernel
theorem dX5_book_54 : decode cX5_book 54 = .ok (.iload_n 1, 1) := by decide +kernel
theorem dX5_book_55 : decode cX5_book 55 = .ok (.if_icmp .ge 28, 3) := by decide +kernel
theorem dX5_book_58 : decode cX5_book 58 = .ok (.aload_n 0, 1) := by decide +kernel
theorem dX5_book_59 : decode cX5_book 59 = .ok (.getfield 13, 3) := by decide +kernel
theorem dX5_book_62 : decode cX5_book 62 = .ok (.bipush 40, 2) := by decide +kernel
theorem dX5_book_64 : decode cX5_book 64 = .ok (.iload_n 2, 1) := by decide +kernel
theorem dX5_book_65 : decode cX5_book 65 = .ok (.imul, 1) := by decide +kernel
theorem dX5_book_66 : decode cX5_book 66 = .ok (.iload_n 3, 1) := by decide +kernel
theorem dX5_book_67 : decode cX5_book 67 = .ok (.iadd, 1) := by decide +kernel
theorem dX5_book_68 : decode cX5_book 68 = .ok (.aload_n 0, 1) := by decide +kernel
theorem dX5_book_69 : decode cX5_book 69 = .ok (.sipush 984, 3) := by decide +kernel
theorem dX5_book_72 : decode cX5_book 72 = .ok (.iconst 0, 1) := by decide +kernel
theorem dX5_book_73 : decode cX5_book 73 = .ok (.invokevirtual 156, 3) := by decide +kernel
theorem dX5_book_76 : decode cX5_book 76 = .ok (.iastore, 1) := by decide +kernel
theorem dX5_book_77 : decode cX5_book 77 = .ok (.iinc 3 1, 3) := by decide +kernel
theorem dX5_book_80 : decode cX5_book 80 = .ok (.goto (-27), 3) := by decide +kernel
theorem dX5_book_83 : decode cX5_book 83 = .ok (.aload_n 0, 1) := by decide +kernel
theorem dX5_book_84 : decode cX5_book 84 = .ok (.getfield 147, 3) := by decide +kernel
theorem dX5_book_87 : decode cX5_book 87 = .ok (.ireturn, 1) := by decide +kernel
theorem dX5_best_0 : decode cX5_best 0 = .ok (.iload_n 1, 1) := by decide +kernel
theorem dX5_best_1 : decode cX5_best 1 = .ok (.i2l, 1) := by decide +kernel
theorem dX5_best_2 : decode cX5_best 2 = .ok (.lconst 1, 1) := by decide +kernel
theorem dX5_best_3 : decode cX5_best 3 = .ok (.ldc2_w 170, 3) := by decide +kernel
theorem dX5_best_6 : decode cX5_best 6 = .ok (.invokestatic 63, 3) := by decide +kernel
theorem dX5_best_9 : decode cX5_best 9 = .ok (.ifCond .ne 5, 3) := by decide +kernel
theorem dX5_best_12 : decode cX5_best 12 = .ok (.iconst (-1), 1) := by decide +kernel
theorem dX5_best_13 : decode cX5_best 13 = .ok (.ireturn, 1) := by decide +kernel
theorem dX5_best_14 : decode cX5_best 14 = .ok (.aload_n 0, 1) := by decide +kernel
theorem dX5_best_15 : decode cX5_best 15 = .ok (.getfield 97, 3) := by decide +kernel
theorem dX5_best_18 : decode cX5_best 18 = .ok (.ifCond .ne 6, 3) := by decide +kernel
theorem dX5_best_21 : decode cX5_best 21 = .ok (.bipush (-4), 2) := by decide +kernel
theorem dX5_best_23 : decode cX5_best 23 = .ok (.ireturn, 1) := by decide +kernel
theorem dX5_best_24 : decode cX5_best 24 = .ok (.iconst 0, 1) := by decide +kernel
theorem dX5_best_25 : decode cX5_best 25 = .ok (.istore_n 2, 1) := by decide +kernel
theorem dX5_best_26 : decode cX5_best 26 = .ok (.iconst (-1), 1) := by decide +kernel
theorem dX5_best_27 : decode cX5_best 27 = .ok (.istore_n 3, 1) := by decide +kernel
theorem dX5_best_28 : decode cX5_best 28 = .ok (.iconst 0, 1) := by decide +kernel
theorem dX5_best_29 : decode cX5_best 29 = .ok (.istore 4, 2) := by decide +kernel
theorem dX5_best_31 : decode cX5_best 31 = .ok (.iload 4, 2) := by decide +kernel
theorem dX5_best_33 : decode cX5_best 33 = .ok (.iconst 5, 1) := by decide +kernel
theorem dX5_best_34 : decode cX5_best 34 = .ok (.if_icmp .ge 50, 3) := by decide +kernel
theorem dX5_best_37 : decode cX5_best 37 = .ok (.aload_n 0, 1) := by decide +kernel
theorem dX5_best_38 : decode cX5_best 38 = .ok (.invokevirtual 164, 3) := by decide +kernel
theorem dX5_best_41 : decode cX5_best 41 = .ok (.aload_n 0, 1) := by decide +kernel
theorem dX5_best_42 : decode cX5_best 42 = .ok (.getfield 41, 3) := by decide +kernel
theorem dX5_best_45 : decode cX5_best 45 = .ok (.sipush 985, 3) := by decide +kernel
theorem dX5_best_48 : decode cX5_best 48 = .ok (.iload 4, 2) := by decide +kernel
theorem dX5_best_50 : decode cX5_best 50 = .ok (.iastore, 1) := by decide +kernel
theorem dX5_best_51 : decode cX5_best 51 = .ok (.aload_n 0, 1) := by decide +kernel
theorem dX5_best_52 : decode cX5_best 52 = .ok (.iload_n 1, 1) := by decide +kernel
theorem dX5_best_53 : decode cX5_best 53 = .ok (.invokevirtual 167, 3) := by decide +kernel
theorem dX5_best_56 : decode cX5_best 56 = .ok (.istore 5, 2) := by decide +kernel
theorem dX5_best_58 : decode cX5_best 58 = .ok (.iload 5, 2) := by decide +kernel
theorem dX5_best_60 : decode cX5_best 60 = .ok (.iload_n 3, 1) := by decide +kernel
theorem dX5_best_61 : decode cX5_best 61 = .ok (.if_icmp .le 8, 3) := by decide +kernel
theorem dX5_best_64 : decode cX5_best 64 = .ok (.iload 4, 2) := by decide +kernel
theorem dX5_best_66 : decode cX5_best 66 = .ok (.goto 4, 3) := by decide +kernel
theorem dX5_best_69 : decode cX5_best 69 = .ok (.iload_n 2, 1) := by decide +kernel
theorem dX5_best_70 : decode cX5_best 70 = .ok (.istore_n 2, 1) := by decide +kernel
theorem dX5_best_71 : decode cX5_best 71 = .ok (.iload_n 3, 1) := by decide +kernel
theorem dX5_best_72 : decode cX5_best 72 = .ok (.iload 5, 2) := by decide +kernel
theorem dX5_best_74 : decode cX5_best 74 = .ok (.invokestatic 106, 3) := by decide +kernel
theorem dX5_best_77 : decode cX5_best 77 = .ok (.istore_n 3, 1) := by decide +kernel
theorem dX5_best_78 : decode cX5_best 78 = .ok (.iinc 4 1, 3) := by decide +kernel
theorem dX5_best_81 : decode cX5_best 81 = .ok (.goto (-50), 3) := by decide +kernel
theorem dX5_best_84 : decode cX5_best 84 = .ok (.aload_n 0, 1) := by decide +kernel
theorem dX5_best_85 : decode cX5_best 85 = .ok (.iload_n 3, 1) := by decide +kernel
theorem dX5_best_86 : decode cX5_best 86 = .ok (.putfield 75, 3) := by decide +kernel
theorem dX5_best_89 : decode cX5_best 89 = .ok (.iload_n 2, 1) := by decide +kernel
theorem dX5_best_90 : decode cX5_best 90 = .ok (.ireturn, 1) := by decide +kernel
theorem dX5_plan_0 : decode cX5_plan 0 = .ok (.iload_n 1, 1) := by decide +kernel
theorem dX5_plan_1 : decode cX5_plan 1 = .ok (.i2l, 1) := by decide +kernel
theorem dX5_plan_2 : decode cX5_plan 2 = .ok (.lconst 1, 1) := by decide +kernel
theorem dX5_plan_3 : decode cX5_plan 3 = .ok (.ldc2_w 61, 3) := by decide +kernel
theorem dX5_plan_6 : decode cX5_plan 6 = .ok (.invokestatic 63, 3) := by decide +kernel
theorem dX5_plan_9 : decode cX5_plan 9 = .ok (.ifCond .eq 15, 3) := by decide +kernel
theorem dX5_plan_12 : decode cX5_plan 12 = .ok (.iload_n 2, 1) := by decide +kernel
theorem dX5_plan_13 : decode cX5_plan 13 = .ok (.i2l, 1) := by decide +kernel
theorem dX5_plan_14 : decode cX5_plan 14 = .ok (.lconst 0, 1) := by decide +kernel
theorem dX5_plan_15 : decode cX5_plan 15 = .ok (.ldc2_w 61, 3) := by decide +kernel
theorem dX5_plan_18 : decode cX5_plan 18 = .ok (.invokestatic 63, 3) := by decide +kernel
theorem dX5_plan_21 : decode cX5_plan 21 = .ok (.ifCond .ne 5, 3) := by decide +kernel
theorem dX5_plan_24 : decode cX5_plan 24 = .ok (.iconst (-1), 1) := by decide +kernel
theorem dX5_plan_25 : decode cX5_plan 25 = .ok (.ireturn, 1) := by decide +kernel
theorem dX5_plan_26 : decode cX5_plan 26 = .ok (.aload_n 0, 1) := by decide +kernel
theorem dX5_plan_27 : decode cX5_plan 27 = .ok (.getfield 97, 3) := by decide +kernel
theorem dX5_plan_30 : decode cX5_plan 30 = .ok (.ifCond .ne 6, 3) := by decide +kernel
theorem dX5_plan_33 : decode cX5_plan 33 = .ok (.bipush (-4), 2) := by decide +kernel
theorem dX5_plan_35 : decode cX5_plan 35 = .ok (.ireturn, 1) := by decide +kernel
theorem dX5_plan_36 : decode cX5_plan 36 = .ok (.iconst 1, 1) := by decide +kernel
theorem dX5_plan_37 : decode cX5_plan 37 = .ok (.istore_n 3, 1) := by decide +kernel
theorem dX5_plan_38 : decode cX5_plan 38 = .ok (.iconst 0, 1) := by decide +kernel
theorem dX5_plan_39 : decode cX5_plan 39 = .ok (.istore 4, 2) := by decide +kernel
theorem dX5_plan_41 : decode cX5_plan 41 = .ok (.iload 4, 2) := by decide +kernel
theorem dX5_plan_43 : decode cX5_plan 43 = .ok (.iload_n 1, 1) := by decide +kernel
theorem dX5_plan_44 : decode cX5_plan 44 = .ok (.if_icmp .ge 13, 3) := by decide +kernel
theorem dX5_plan_47 : decode cX5_plan 47 = .ok (.iload_n 3, 1) := by decide +kernel
theorem dX5_plan_48 : decode cX5_plan 48 = .ok (.iconst 5, 1) := by decide +kernel
theorem dX5_plan_49 : decode cX5_plan 49 = .ok (.imul, 1) := by decide +kernel
theorem dX5_plan_50 : decode cX5_plan 50 = .ok (.istore_n 3, 1) := by decide +kernel
theorem dX5_plan_51 : decode cX5_plan 51 = .ok (.iinc 4 1, 3) := by decide +kernel
theorem dX5_plan_54 : decode cX5_plan 54 = .ok (.goto (-13), 3) := by decide +kernel
theorem dX5_plan_57 : decode cX5_plan 57 = .ok (.iconst 0, 1) := by decide +kernel
theorem dX5_plan_58 : decode cX5_plan 58 = .ok (.istore 4, 2) := by decide +kernel
theorem dX5_plan_60 : decode cX5_plan 60 = .ok (.iconst (-1), 1) := by decide +kernel
theorem dX5_plan_61 : decode cX5_plan 61 = .ok (.istore 5, 2) := by decide +kernel
theorem dX5_plan_63 : decode cX5_plan 63 = .ok (.iconst 0, 1) := by decide +kernel
theorem dX5_plan_64 : decode cX5_plan 64 = .ok (.istore 6, 2) := by decide +kernel
theorem dX5_plan_66 : decode cX5_plan 66 = .ok (.iload 6, 2) := by decide +kernel
theorem dX5_plan_68 : decode cX5_plan 68 = .ok (.iload_n 3, 1) := by decide +kernel
theorem dX5_plan_69 : decode cX5_plan 69 = .ok (.if_icmp .ge 93, 3) := by decide +kernel
theorem dX5_plan_72 : decode cX5_plan 72 = .ok (.aload_n 0, 1) := by decide +kernel
theorem dX5_plan_73 : decode cX5_plan 73 = .ok (.invokevirtual 164, 3) := by decide +kernel
theorem dX5_plan_76 : decode cX5_plan 76 = .ok (.iload_n 3, 1) := by decide +kernel
theorem dX5_plan_77 : decode cX5_plan 77 = .ok (.istore 7, 2) := by decide +kernel
theorem dX5_plan_79 : decode cX5_plan 79 = .ok (.iconst 0, 1) := by decide +kernel
theorem dX5_plan_80 : decode cX5_plan 80 = .ok (.istore 8, 2) := by decide +kernel
theorem dX5_plan_82 : decode cX5_plan 82 = .ok (.iconst 0, 1) := by decide +kernel
theorem dX5_plan_83 : decode cX5_plan 83 = .ok (.istore 9, 2) := by decide +kernel
theorem dX5_plan_85 : decode cX5_plan 85 = .ok (.iload 9, 2) := by decide +kernel
theorem dX5_plan_87 : decode cX5_plan 87 = .ok (.iload_n 1, 1) := by decide +kernel
theorem dX5_plan_88 : decode cX5_plan 88 = .ok (.if_icmp .ge 43, 3) := by decide +kernel
theorem dX5_plan_91 : decode cX5_plan 91 = .ok (.iload 7, 2) := by decide +kernel
theorem dX5_plan_93 : decode cX5_plan 93 = .ok (.iconst 5, 1) := by decide +kernel
theorem dX5_plan_94 : decode cX5_plan 94 = .ok (.idiv, 1) := by decide +kernel
theorem dX5_plan_95 : decode cX5_plan 95 = .ok (.istore 7, 2) := by decide +kernel
theorem dX5_plan_97 : decode cX5_plan 97 = .ok (.aload_n 0, 1) := by decide +kernel
theorem dX5_plan_98 : decode cX5_plan 98 = .ok (.getfield 41, 3) := by decide +kernel
theorem dX5_plan_101 : decode cX5_plan 101 = .ok (.sipush 985, 3) := by decide +kernel
theorem dX5_plan_104 : decode cX5_plan 104 = .ok (.iload 6, 2) := by decide +kernel
theorem dX5_plan_106 : decode cX5_plan 106 = .ok (.iload 7, 2) := by decide +kernel
theorem dX5_plan_108 : decode cX5_plan 108 = .ok (.idiv, 1) := by decide +kernel
theorem dX5_plan_109 : decode cX5_plan 109 = .ok (.iconst 5, 1) := by decide +kernel
theorem dX5_plan_110 : decode cX5_plan 110 = .ok (.irem, 1) := by decide +kernel
theorem dX5_plan_111 : decode cX5_plan 111 = .ok (.iastore, 1) := by decide +kernel
theorem dX5_plan_112 : decode cX5_plan 112 = .ok (.iload 8, 2) := by decide +kernel
theorem dX5_plan_114 : decode cX5_plan 114 = .ok (.aload_n 0, 1) := by decide +kernel
theorem dX5_plan_115 : decode cX5_plan 115 = .ok (.sipush 984, 3) := by decide +kernel
theorem dX5_plan_118 : decode cX5_plan 118 = .ok (.iconst 0, 1) := by decide +kernel
theorem dX5_plan_119 : decode cX5_plan 119 = .ok (.invokevirtual 156, 3) := by decide +kernel
theorem dX5_plan_122 : decode cX5_plan 122 = .ok (.iadd, 1) := by decide +kernel
theorem dX5_plan_123 : decode cX5_plan 123 = .ok (.istore 8, 2) := by decide +kernel
theorem dX5_plan_125 : decode cX5_plan 125 = .ok (.iinc 9 1, 3) := by decide +kernel
theorem dX5_plan_128 : decode cX5_plan 128 = .ok (.goto (-43), 3) := by decide +kernel
theorem dX5_plan_131 : decode cX5_plan 131 = .ok (.iload 8, 2) := by decide +kernel
theorem dX5_plan_133 : decode cX5_plan 133 = .ok (.iload 5, 2) := by decide +kernel
theorem dX5_plan_135 : decode cX5_plan 135 = .ok (.if_icmp .le 8, 3) := by decide +kernel
theorem dX5_plan_138 : decode cX5_plan 138 = .ok (.iload 6, 2) := by decide +kernel
theorem dX5_plan_140 : decode cX5_plan 140 = .ok (.goto 5, 3) := by decide +kernel
theorem dX5_plan_143 : decode cX5_plan 143 = .ok (.iload 4, 2) := by decide +kernel
theorem dX5_plan_145 : decode cX5_plan 145 = .ok (.istore 4, 2) := by decide +kernel
theorem dX5_plan_147 : decode cX5_plan 147 = .ok (.iload 5, 2) := by decide +kernel
theorem dX5_plan_149 : decode cX5_plan 149 = .ok (.iload 8, 2) := by decide +kernel
theorem dX5_plan_151 : decode cX5_plan 151 = .ok (.invokestatic 106, 3) := by decide +kernel
theorem dX5_plan_154 : decode cX5_plan 154 = .ok (.istore 5, 2) := by decide +kernel
theorem dX5_plan_156 : decode cX5_plan 156 = .ok (.iinc 6 1, 3) := by decide +kernel
theorem dX5_plan_159 : decode cX5_plan 159 = .ok (.goto (-93), 3) := by decide +kernel
theorem dX5_plan_162 : decode cX5_plan 162 = .ok (.aload_n 0, 1) := by decide +kernel
theorem dX5_plan_163 : decode cX5_plan 163 = .ok (.iload_n 2, 1) := by decide +kernel
theorem dX5_plan_164 : decode cX5_plan 164 = .ok (.iload_n 1, 1) := by decide +kernel
theorem dX5_plan_165 : decode cX5_plan 165 = .ok (.invokevirtual 71, 3) := by decide +kernel
theorem dX5_plan_168 : decode cX5_plan 168 = .ok (.iload_n 1, 1) := by decide +kernel
theorem dX5_plan_169 : decode cX5_plan 169 = .ok (.iconst 1, 1) := by decide +kernel
theorem dX5_plan_170 : decode cX5_plan 170 = .ok (.isub, 1) := by decide +kernel
theorem dX5_plan_171 : decode cX5_plan 171 = .ok (.istore 6, 2) := by decide +kernel
theorem dX5_plan_173 : decode cX5_plan 173 = .ok (.iload 6, 2) := by decide +kernel
theorem dX5_plan_175 : decode cX5_plan 175 = .ok (.ifCond .lt 31, 3) := by decide +kernel
theorem dX5_plan_178 : decode cX5_plan 178 = .ok (.aload_n 0, 1) := by decide +kernel
theorem dX5_plan_179 : decode cX5_plan 179 = .ok (.getfield 13, 3) := by decide +kernel
theorem dX5_plan_182 : decode cX5_plan 182 = .ok (.bipush 40, 2) := by decide +kernel
theorem dX5_plan_184 : decode cX5_plan 184 = .ok (.iload_n 2, 1) := by decide +kernel
theorem dX5_plan_185 : decode cX5_plan 185 = .ok (.imul, 1) := by decide +kernel
theorem dX5_plan_186 : decode cX5_plan 186 = .ok (.iload 6, 2) := by decide +kernel
theorem dX5_plan_188 : decode cX5_plan 188 = .ok (.iadd, 1) := by decide +kernel
theorem dX5_plan_189 : decode cX5_plan 189 = .ok (.iload 4, 2) := by decide +kernel
theorem dX5_plan_191 : decode cX5_plan 191 = .ok (.iconst 5, 1) := by decide +kernel
theorem dX5_plan_192 : decode cX5_plan 192 = .ok (.irem, 1) := by decide +kernel
theorem dX5_plan_193 : decode cX5_plan 193 = .ok (.iastore, 1) := by decide +kernel
theorem dX5_plan_194 : decode cX5_plan 194 = .ok (.iload 4, 2) := by decide +kernel
theorem dX5_plan_196 : decode cX5_plan 196 = .ok (.iconst 5, 1) := by decide +kernel
theorem dX5_plan_197 : decode cX5_plan 197 = .ok (.idiv, 1) := by decide +kernel
theorem dX5_plan_198 : decode cX5_plan 198 = .ok (.istore 4, 2) := by decide +kernel
theorem dX5_plan_200 : decode cX5_plan 200 = .ok (.iinc 6 (-1), 3) := by decide +kernel
theorem dX5_plan_203 : decode cX5_plan 203 = .ok (.goto (-30), 3) := by decide +kernel
theorem dX5_plan_206 : decode cX5_plan 206 = .ok (.iload 5, 2) := by decide +kernel
theorem dX5_plan_208 : decode cX5_plan 208 = .ok (.ireturn, 1) := by decide +kernel
theorem dX5_rakes_0 : decode cX5_rakes 0 = .ok (.iload_n 1, 1) := by decide +kernel
theorem dX5_rakes_1 : decode cX5_rakes 1 = .ok (.i2l, 1) := by decide +kernel
theorem dX5_rakes_2 : decode cX5_rakes 2 = .ok (.lconst 1, 1) := by decide +kernel
theorem dX5_rakes_3 : decode cX5_rakes 3 = .ok (.ldc2_w 172, 3) := by decide +kernel
theorem dX5_rakes_6 : decode cX5_rakes 6 = .ok (.invokestatic 63, 3) := by decide +kernel
theorem dX5_rakes_9 : decode cX5_rakes 9 = .ok (.ifCond .eq 15, 3) := by decide +kernel
theorem dX5_rakes_12 : decode cX5_rakes 12 = .ok (.iload_n 2, 1) := by decide +kernel
theorem dX5_rakes_13 : decode cX5_rakes 13 = .ok (.i2l, 1) := by decide +kernel
theorem dX5_rakes_14 : decode cX5_rakes 14 = .ok (.lconst 0, 1) := by decide +kernel
theorem dX5_rakes_15 : decode cX5_rakes 15 = .ok (.ldc2_w 174, 3) := by decide +kernel
theorem dX5_rakes_18 : decode cX5_rakes 18 = .ok (.invokestatic 63, 3) := by decide +kernel
theorem dX5_rakes_21 : decode cX5_rakes 21 = .ok (.ifCond .ne 5, 3) := by decide +kernel
theorem dX5_rakes_24 : decode cX5_rakes 24 = .ok (.iconst (-1), 1) := by decide +kernel
theorem dX5_rakes_25 : decode cX5_rakes 25 = .ok (.ireturn, 1) := by decide +kernel
theorem dX5_rakes_26 : decode cX5_rakes 26 = .ok (.aload_n 0, 1) := by decide +kernel
theorem dX5_rakes_27 : decode cX5_rakes 27 = .ok (.getfield 97, 3) := by decide +kernel
theorem dX5_rakes_30 : decode cX5_rakes 30 = .ok (.ifCond .ne 6, 3) := by decide +kernel
theorem dX5_rakes_33 : decode cX5_rakes 33 = .ok (.bipush (-4), 2) := by decide +kernel
theorem dX5_rakes_35 : decode cX5_rakes 35 = .ok (.ireturn, 1) := by decide +kernel
theorem dX5_rakes_36 : decode cX5_rakes 36 = .ok (.bipush (-9), 2) := by decide +kernel
theorem dX5_rakes_38 : decode cX5_rakes 38 = .ok (.istore_n 3, 1) := by decide +kernel
theorem dX5_rakes_39 : decode cX5_rakes 39 = .ok (.iconst 0, 1) := by decide +kernel
theorem dX5_rakes_40 : decode cX5_rakes 40 = .ok (.istore 4, 2) := by decide +kernel
theorem dX5_rakes_42 : decode cX5_rakes 42 = .ok (.iload 4, 2) := by decide +kernel
theorem dX5_rakes_44 : decode cX5_rakes 44 = .ok (.iconst 1, 1) := by decide +kernel
theorem dX5_rakes_45 : decode cX5_rakes 45 = .ok (.iload_n 1, 1) := by decide +kernel
theorem dX5_rakes_46 : decode cX5_rakes 46 = .ok (.ishl, 1) := by decide +kernel
theorem dX5_rakes_47 : decode cX5_rakes 47 = .ok (.if_icmp .ge 103, 3) := by decide +kernel
theorem dX5_rakes_50 : decode cX5_rakes 50 = .ok (.aload_n 0, 1) := by decide +kernel
theorem dX5_rakes_51 : decode cX5_rakes 51 = .ok (.invokevirtual 164, 3) := by decide +kernel
theorem dX5_rakes_54 : decode cX5_rakes 54 = .ok (.iconst 0, 1) := by decide +kernel
theorem dX5_rakes_55 : decode cX5_rakes 55 = .ok (.istore 5, 2) := by decide +kernel
theorem dX5_rakes_57 : decode cX5_rakes 57 = .ok (.iconst 0, 1) := by decide +kernel
theorem dX5_rakes_58 : decode cX5_rakes 58 = .ok (.istore 6, 2) := by decide +kernel
theorem dX5_rakes_60 : decode cX5_rakes 60 = .ok (.iload 6, 2) := by decide +kernel
theorem dX5_rakes_62 : decode cX5_rakes 62 = .ok (.iload_n 1, 1) := by decide +kernel
theorem dX5_rakes_63 : decode cX5_rakes 63 = .ok (.if_icmp .ge 52, 3) := by decide +kernel
theorem dX5_rakes_66 : decode cX5_rakes 66 = .ok (.aload_n 0, 1) := by decide +kernel
theorem dX5_rakes_67 : decode cX5_rakes 67 = .ok (.getfield 41, 3) := by decide +kernel
theorem dX5_rakes_70 : decode cX5_rakes 70 = .ok (.sipush 986, 3) := by decide +kernel
theorem dX5_rakes_73 : decode cX5_rakes 73 = .ok (.iload 4, 2) := by decide +kernel
theorem dX5_rakes_75 : decode cX5_rakes 75 = .ok (.iload 6, 2) := by decide +kernel
theorem dX5_rakes_77 : decode cX5_rakes 77 = .ok (.invokestatic 109, 3) := by decide +kernel
theorem dX5_rakes_80 : decode cX5_rakes 80 = .ok (.ifCond .eq 7, 3) := by decide +kernel
theorem dX5_rakes_83 : decode cX5_rakes 83 = .ok (.iconst 0, 1) := by decide +kernel
theorem dX5_rakes_84 : decode cX5_rakes 84 = .ok (.goto 11, 3) := by decide +kernel
theorem dX5_rakes_87 : decode cX5_rakes 87 = .ok (.aload_n 0, 1) := by decide +kernel
theorem dX5_rakes_88 : decode cX5_rakes 88 = .ok (.getfield 41, 3) := by decide +kernel
theorem dX5_rakes_91 : decode cX5_rakes 91 = .ok (.sipush 986, 3) := by decide +kernel
theorem dX5_rakes_94 : decode cX5_rakes 94 = .ok (.iaload, 1) := by decide +kernel
theorem dX5_rakes_95 : decode cX5_rakes 95 = .ok (.iastore, 1) := by decide +kernel
theorem dX5_rakes_96 : decode cX5_rakes 96 = .ok (.iload 5, 2) := by decide +kernel
theorem dX5_rakes_98 : decode cX5_rakes 98 = .ok (.aload_n 0, 1) := by decide +kernel
theorem dX5_rakes_99 : decode cX5_rakes 99 = .ok (.sipush 984, 3) := by decide +kernel
theorem dX5_rakes_102 : decode cX5_rakes 102 = .ok (.iconst 0, 1) := by decide +kernel
theorem dX5_rakes_103 : decode cX5_rakes 103 = .ok (.invokevirtual 156, 3) := by decide +kernel
theorem dX5_rakes_106 : decode cX5_rakes 106 = .ok (.iadd, 1) := by decide +kernel
theorem dX5_rakes_107 : decode cX5_rakes 107 = .ok (.istore 5, 2) := by decide +kernel
theorem dX5_rakes_109 : decode cX5_rakes 109 = .ok (.iinc 6 1, 3) := by decide +kernel
theorem dX5_rakes_112 : decode cX5_rakes 112 = .ok (.goto (-52), 3) := by decide +kernel
theorem dX5_rakes_115 : decode cX5_rakes 115 = .ok (.iload 5, 2) := by decide +kernel
theorem dX5_rakes_117 : decode cX5_rakes 117 = .ok (.iload_n 2, 1) := by decide +kernel
theorem dX5_rakes_118 : decode cX5_rakes 118 = .ok (.if_icmp .lt 24, 3) := by decide +kernel
theorem dX5_rakes_121 : decode cX5_rakes 121 = .ok (.iload_n 3, 1) := by decide +kernel
theorem dX5_rakes_122 : decode cX5_rakes 122 = .ok (.ifCond .lt 15, 3) := by decide +kernel
theorem dX5_rakes_125 : decode cX5_rakes 125 = .ok (.iload 4, 2) := by decide +kernel
theorem dX5_rakes_127 : decode cX5_rakes 127 = .ok (.invokestatic 176, 3) := by decide +kernel
theorem dX5_rakes_130 : decode cX5_rakes 130 = .ok (.iload_n 3, 1) := by decide +kernel
theorem dX5_rakes_131 : decode cX5_rakes 131 = .ok (.invokestatic 176, 3) := by decide +kernel
theorem dX5_rakes_134 : decode cX5_rakes 134 = .ok (.if_icmp .ge 8, 3) := by decide +kernel
theorem dX5_rakes_137 : decode cX5_rakes 137 = .ok (.iload 4, 2) := by decide +kernel
theorem dX5_rakes_139 : decode cX5_rakes 139 = .ok (.goto 4, 3) := by decide +kernel
theorem dX5_rakes_142 : decode cX5_rakes 142 = .ok (.iload_n 3, 1) := by decide +kernel
theorem dX5_rakes_143 : decode cX5_rakes 143 = .ok (.istore_n 3, 1) := by decide +kernel
theorem dX5_rakes_144 : decode cX5_rakes 144 = .ok (.iinc 4 1, 3) := by decide +kernel
theorem dX5_rakes_147 : decode cX5_rakes 147 = .ok (.goto (-105), 3) := by decide +kernel
theorem dX5_rakes_150 : decode cX5_rakes 150 = .ok (.iload_n 3, 1) := by decide +kernel
theorem dX5_rakes_151 : decode cX5_rakes 151 = .ok (.ifCond .ge 6, 3) := by decide +kernel
theorem dX5_rakes_154 : decode cX5_rakes 154 = .ok (.bipush (-9), 2) := by decide +kernel
theorem dX5_rakes_156 : decode cX5_rakes 156 = .ok (.ireturn, 1) := by decide +kernel
theorem dX5_rakes_157 : decode cX5_rakes 157 = .ok (.aload_n 0, 1) := by decide +kernel
theorem dX5_rakes_158 : decode cX5_rakes 158 = .ok (.iload_n 3, 1) := by decide +kernel
theorem dX5_rakes_159 : decode cX5_rakes 159 = .ok (.putfield 75, 3) := by decide +kernel
theorem dX5_rakes_162 : decode cX5_rakes 162 = .ok (.iload_n 3, 1) := by decide +kernel
theorem dX5_rakes_163 : decode cX5_rakes 163 = .ok (.invokestatic 176, 3) := by decide +kernel
theorem dX5_rakes_166 : decode cX5_rakes 166 = .ok (.ireturn, 1) := by decide +kernel
theorem dX5_fishes_0 : decode cX5_fishes 0 = .ok (.iload_n 1, 1) := by decide +kernel
theorem dX5_fishes_1 : decode cX5_fishes 1 = .ok (.i2l, 1) := by decide +kernel
theorem dX5_fishes_2 : decode cX5_fishes 2 = .ok (.lconst 1, 1) := by decide +kernel
theorem dX5_fishes_3 : decode cX5_fishes 3 = .ok (.ldc2_w 170, 3) := by decide +kernel
theorem dX5_fishes_6 : decode cX5_fishes 6 = .ok (.invokestatic 63, 3) := by decide +kernel
theorem dX5_fishes_9 : decode cX5_fishes 9 = .ok (.ifCond .ne 5, 3) := by decide +kernel
theorem dX5_fishes_12 : decode cX5_fishes 12 = .ok (.iconst (-1), 1) := by decide +kernel
theorem dX5_fishes_13 : decode cX5_fishes 13 = .ok (.ireturn, 1) := by decide +kernel
theorem dX5_fishes_14 : decode cX5_fishes 14 = .ok (.aload_n 0, 1) := by decide +kernel
theorem dX5_fishes_15 : decode cX5_fishes 15 = .ok (.getfield 97, 3) := by decide +kernel
theorem dX5_fishes_18 : decode cX5_fishes 18 = .ok (.ifCond .ne 6, 3) := by decide +kernel
theorem dX5_fishes_21 : decode cX5_fishes 21 = .ok (.bipush (-4), 2) := by decide +kernel
theorem dX5_fishes_23 : decode cX5_fishes 23 = .ok (.ireturn, 1) := by decide +kernel
theorem dX5_fishes_24 : decode cX5_fishes 24 = .ok (.aload_n 0, 1) := by decide +kernel
theorem dX5_fishes_25 : decode cX5_fishes 25 = .ok (.invokevirtual 164, 3) := by decide +kernel
theorem dX5_fishes_28 : decode cX5_fishes 28 = .ok (.aload_n 0, 1) := by decide +kernel
theorem dX5_fishes_29 : decode cX5_fishes 29 = .ok (.iload_n 1, 1) := by decide +kernel
theorem dX5_fishes_30 : decode cX5_fishes 30 = .ok (.invokevirtual 167, 3) := by decide +kernel
theorem dX5_fishes_33 : decode cX5_fishes 33 = .ok (.istore_n 2, 1) := by decide +kernel
theorem dX5_fishes_34 : decode cX5_fishes 34 = .ok (.bipush (-9), 2) := by decide +kernel
theorem dX5_fishes_36 : decode cX5_fishes 36 = .ok (.istore_n 3, 1) := by decide +kernel
theorem dX5_fishes_37 : decode cX5_fishes 37 = .ok (.iconst 0, 1) := by decide +kernel
theorem dX5_fishes_38 : decode cX5_fishes 38 = .ok (.istore 4, 2) := by decide +kernel
theorem dX5_fishes_40 : decode cX5_fishes 40 = .ok (.iload 4, 2) := by decide +kernel
theorem dX5_fishes_42 : decode cX5_fishes 42 = .ok (.aload_n 0, 1) := by decide +kernel
theorem dX5_fishes_43 : decode cX5_fishes 43 = .ok (.getfield 97, 3) := by decide +kernel
theorem dX5_fishes_46 : decode cX5_fishes 46 = .ok (.if_icmp .ge 55, 3) := by decide +kernel
theorem dX5_fishes_49 : decode cX5_fishes 49 = .ok (.aload_n 0, 1) := by decide +kernel
theorem dX5_fishes_50 : decode cX5_fishes 50 = .ok (.invokevirtual 164, 3) := by decide +kernel
theorem dX5_fishes_53 : decode cX5_fishes 53 = .ok (.aload_n 0, 1) := by decide +kernel
theorem dX5_fishes_54 : decode cX5_fishes 54 = .ok (.getfield 41, 3) := by decide +kernel
theorem dX5_fishes_57 : decode cX5_fishes 57 = .ok (.sipush 989, 3) := by decide +kernel
theorem dX5_fishes_60 : decode cX5_fishes 60 = .ok (.dup2, 1) := by decide +kernel
theorem dX5_fishes_61 : decode cX5_fishes 61 = .ok (.iaload, 1) := by decide +kernel
theorem dX5_fishes_62 : decode cX5_fishes 62 = .ok (.iconst 1, 1) := by decide +kernel
theorem dX5_fishes_63 : decode cX5_fishes 63 = .ok (.iload 4, 2) := by decide +kernel
theorem dX5_fishes_65 : decode cX5_fishes 65 = .ok (.ishl, 1) := by decide +kernel
theorem dX5_fishes_66 : decode cX5_fishes 66 = .ok (.ior, 1) := by decide +kernel
theorem dX5_fishes_67 : decode cX5_fishes 67 = .ok (.iastore, 1) := by decide +kernel
theorem dX5_fishes_68 : decode cX5_fishes 68 = .ok (.aload_n 0, 1) := by decide +kernel
theorem dX5_fishes_69 : decode cX5_fishes 69 = .ok (.iload_n 1, 1) := by decide +kernel
theorem dX5_fishes_70 : decode cX5_fishes 70 = .ok (.invokevirtual 167, 3) := by decide +kernel
theorem dX5_fishes_73 : decode cX5_fishes 73 = .ok (.istore 5, 2) := by decide +kernel
theorem dX5_fishes_75 : decode cX5_fishes 75 = .ok (.iload 5, 2) := by decide +kernel
theorem dX5_fishes_77 : decode cX5_fishes 77 = .ok (.iload_n 2, 1) := by decide +kernel
theorem dX5_fishes_78 : decode cX5_fishes 78 = .ok (.if_icmp .le 8, 3) := by decide +kernel
theorem dX5_fishes_81 : decode cX5_fishes 81 = .ok (.iload 4, 2) := by decide +kernel
theorem dX5_fishes_83 : decode cX5_fishes 83 = .ok (.goto 4, 3) := by decide +kernel
theorem dX5_fishes_86 : decode cX5_fishes 86 = .ok (.iload_n 3, 1) := by decide +kernel
theorem dX5_fishes_87 : decode cX5_fishes 87 = .ok (.istore_n 3, 1) := by decide +kernel
theorem dX5_fishes_88 : decode cX5_fishes 88 = .ok (.iload_n 2, 1) := by decide +kernel
theorem dX5_fishes_89 : decode cX5_fishes 89 = .ok (.iload 5, 2) := by decide +kernel
theorem dX5_fishes_91 : decode cX5_fishes 91 = .ok (.invokestatic 106, 3) := by decide +kernel
theorem dX5_fishes_94 : decode cX5_fishes 94 = .ok (.istore_n 2, 1) := by decide +kernel
theorem dX5_fishes_95 : decode cX5_fishes 95 = .ok (.iinc 4 1, 3) := by decide +kernel
theorem dX5_fishes_98 : decode cX5_fishes 98 = .ok (.goto (-58), 3) := by decide +kernel
theorem dX5_fishes_101 : decode cX5_fishes 101 = .ok (.aload_n 0, 1) := by decide +kernel
theorem dX5_fishes_102 : decode cX5_fishes 102 = .ok (.iload_n 3, 1) := by decide +kernel
theorem dX5_fishes_103 : decode cX5_fishes 103 = .ok (.ifCond .ge 10, 3) := by decide +kernel
theorem dX5_fishes_106 : decode cX5_fishes 106 = .ok (.aload_n 0, 1) := by decide +kernel
theorem dX5_fishes_107 : decode cX5_fishes 107 = .ok (.getfield 75, 3) := by decide +kernel
theorem dX5_fishes_110 : decode cX5_fishes 110 = .ok (.goto 4, 3) := by decide +kernel
theorem dX5_fishes_113 : decode cX5_fishes 113 = .ok (.iload_n 2, 1) := by decide +kernel
theorem dX5_fishes_114 : decode cX5_fishes 114 = .ok (.putfield 75, 3) := by decide +kernel
theorem dX5_fishes_117 : decode cX5_fishes 117 = .ok (.iload_n 3, 1) := by decide +kernel
theorem dX5_fishes_118 : decode cX5_fishes 118 = .ok (.ireturn, 1) := by decide +kernel
theorem dX5_wrongRow_0 : decode cX5_wrongRow 0 = .ok (.aload_n 0, 1) := by decide +kernel
theorem dX5_wrongRow_1 : decode cX5_wrongRow 1 = .ok (.getfield 7, 3) := by decide +kernel
theorem dX5_wrongRow_4 : decode cX5_wrongRow 4 = .ok (.iload_n 1, 1) := by decide +kernel
theorem dX5_wrongRow_5 : decode cX5_wrongRow 5 = .ok (.iaload, 1) := by decide +kernel
theorem dX5_wrongRow_6 : decode cX5_wrongRow 6 = .ok (.ifCond .ge 5, 3) := by decide +kernel
theorem dX5_wrongRow_9 : decode cX5_wrongRow 9 = .ok (.iconst 1, 1) := by decide +kernel
theorem dX5_wrongRow_10 : decode cX5_wrongRow 10 = .ok (.ireturn, 1) := by decide +kernel
theorem dX5_wrongRow_11 : decode cX5_wrongRow 11 = .ok (.aload_n 0, 1) := by decide +kernel
theorem dX5_wrongRow_12 : decode cX5_wrongRow 12 = .ok (.getfield 7, 3) := by decide +kernel
theorem dX5_wrongRow_15 : decode cX5_wrongRow 15 = .ok (.iload_n 1, 1) := by decide +kernel
theorem dX5_wrongRow_16 : decode cX5_wrongRow 16 = .ok (.iaload, 1) := by decide +kernel
theorem dX5_wrongRow_17 : decode cX5_wrongRow 17 = .ok (.i2l, 1) := by decide +kernel
theorem dX5_wrongRow_18 : decode cX5_wrongRow 18 = .ok (.lconst 1, 1) := by decide +kernel
theorem dX5_wrongRow_19 : decode cX5_wrongRow 19 = .ok (.ldc2_w 170, 3) := by decide +kernel
theorem dX5_wrongRow_22 : decode cX5_wrongRow 22 = .ok (.invokestatic 63, 3) := by decide +kernel
theorem dX5_wrongRow_25 : decode cX5_wrongRow 25 = .ok (.ifCond .ne 5, 3) := by decide +kernel
theorem dX5_wrongRow_28 : decode cX5_wrongRow 28 = .ok (.iconst 5, 1) := by decide +kernel
theorem dX5_wrongRow_29 : decode cX5_wrongRow 29 = .ok (.ireturn, 1) := by decide +kernel
theorem dX5_wrongRow_30 : decode cX5_wrongRow 30 = .ok (.iconst 0, 1) := by decide +kernel
theorem dX5_wrongRow_31 : decode cX5_wrongRow 31 = .ok (.istore_n 2, 1) := by decide +kernel
theorem dX5_wrongRow_32 : decode cX5_wrongRow 32 = .ok (.iconst 0, 1) := by decide +kernel
theorem dX5_wrongRow_33 : decode cX5_wrongRow 33 = .ok (.istore_n 3, 1) := by decide +kernel
theorem dX5_wrongRow_34 : decode cX5_wrongRow 34 = .ok (.iload_n 3, 1) := by decide +kernel
theorem dX5_wrongRow_35 : decode cX5_wrongRow 35 = .ok (.aload_n 0, 1) := by decide +kernel
theorem dX5_wrongRow_36 : decode cX5_wrongRow 36 = .ok (.getfield 7, 3) := by decide +kernel
theorem dX5_wrongRow_39 : decode cX5_wrongRow 39 = .ok (.iload_n 1, 1) := by decide +kernel
theorem dX5_wrongRow_40 : decode cX5_wrongRow 40 = .ok (.iaload, 1) := by decide +kernel
theorem dX5_wrongRow_41 : decode cX5_wrongRow 41 = .ok (.if_icmp .ge 29, 3) := by decide +kernel
theorem dX5_wrongRow_44 : decode cX5_wrongRow 44 = .ok (.aload_n 0, 1) := by decide +kernel
theorem dX5_wrongRow_45 : decode cX5_wrongRow 45 = .ok (.getfield 13, 3) := by decide +kernel
theorem dX5_wrongRow_48 : decode cX5_wrongRow 48 = .ok (.bipush 40, 2) := by decide +kernel
theorem dX5_wrongRow_50 : decode cX5_wrongRow 50 = .ok (.iload_n 1, 1) := by decide +kernel
theorem dX5_wrongRow_51 : decode cX5_wrongRow 51 = .ok (.imul, 1) := by decide +kernel
theorem dX5_wrongRow_52 : decode cX5_wrongRow 52 = .ok (.iload_n 3, 1) := by decide +kernel
theorem dX5_wrongRow_53 : decode cX5_wrongRow 53 = .ok (.iadd, 1) := by decide +kernel
theorem dX5_wrongRow_54 : decode cX5_wrongRow 54 = .ok (.iaload, 1) := by decide +kernel
theorem dX5_wrongRow_55 : decode cX5_wrongRow 55 = .ok (.ifCond .ge 7, 3) := by decide +kernel
theorem dX5_wrongRow_58 : decode cX5_wrongRow 58 = .ok (.iconst 3, 1) := by decide +kernel
theorem dX5_wrongRow_59 : decode cX5_wrongRow 59 = .ok (.goto 4, 3) := by decide +kernel
theorem dX5_wrongRow_62 : decode cX5_wrongRow 62 = .ok (.iload_n 2, 1) := by decide +kernel
theorem dX5_wrongRow_63 : decode cX5_wrongRow 63 = .ok (.istore_n 2, 1) := by decide +kernel
theorem dX5_wrongRow_64 : decode cX5_wrongRow 64 = .ok (.iinc 3 1, 3) := by decide +kernel
theorem dX5_wrongRow_67 : decode cX5_wrongRow 67 = .ok (.goto (-33), 3) := by decide +kernel
theorem dX5_wrongRow_70 : decode cX5_wrongRow 70 = .ok (.iload_n 2, 1) := by decide +kernel
theorem dX5_wrongRow_71 : decode cX5_wrongRow 71 = .ok (.ireturn, 1) := by decide +kernel
theorem dX5_isGround_0 : decode cX5_isGround 0 = .ok (.iconst 1, 1) := by decide +kernel
theorem dX5_isGround_1 : decode cX5_isGround 1 = .ok (.istore_n 2, 1) := by decide +kernel
theorem dX5_isGround_2 : decode cX5_isGround 2 = .ok (.iconst 0, 1) := by decide +kernel
theorem dX5_isGround_3 : decode cX5_isGround 3 = .ok (.istore_n 3, 1) := by decide +kernel
theorem dX5_isGround_4 : decode cX5_isGround 4 = .ok (.iload_n 3, 1) := by decide +kernel
theorem dX5_isGround_5 : decode cX5_isGround 5 = .ok (.aload_n 0, 1) := by decide +kernel
theorem dX5_isGround_6 : decode cX5_isGround 6 = .ok (.getfield 7, 3) := by decide +kernel
theorem dX5_isGround_9 : decode cX5_isGround 9 = .ok (.iload_n 1, 1) := by decide +kernel
theorem dX5_isGround_10 : decode cX5_isGround 10 = .ok (.iaload, 1) := by decide +kernel
theorem dX5_isGround_11 : decode cX5_isGround 11 = .ok (.if_icmp .ge 41, 3) := by decide +kernel
theorem dX5_isGround_14 : decode cX5_isGround 14 = .ok (.aload_n 0, 1) := by decide +kernel
theorem dX5_isGround_15 : decode cX5_isGround 15 = .ok (.sipush 984, 3) := by decide +kernel
theorem dX5_isGround_18 : decode cX5_isGround 18 = .ok (.iconst 0, 1) := by decide +kernel
theorem dX5_isGround_19 : decode cX5_isGround 19 = .ok (.invokevirtual 156, 3) := by decide +kernel
theorem dX5_isGround_22 : decode cX5_isGround 22 = .ok (.aload_n 0, 1) := by decide +kernel
theorem dX5_isGround_23 : decode cX5_isGround 23 = .ok (.getfield 13, 3) := by decide +kernel
theorem dX5_isGround_26 : decode cX5_isGround 26 = .ok (.bipush 40, 2) := by decide +kernel
theorem dX5_isGround_28 : decode cX5_isGround 28 = .ok (.iload_n 1, 1) := by decide +kernel
theorem dX5_isGround_29 : decode cX5_isGround 29 = .ok (.imul, 1) := by decide +kernel
theorem dX5_isGround_30 : decode cX5_isGround 30 = .ok (.iload_n 3, 1) := by decide +kernel
theorem dX5_isGround_31 : decode cX5_isGround 31 = .ok (.iadd, 1) := by decide +kernel
theorem dX5_isGround_32 : decode cX5_isGround 32 = .ok (.iaload, 1) := by decide +kernel
theorem dX5_isGround_33 : decode cX5_isGround 33 = .ok (.if_icmp .ne 11, 3) := by decide +kernel
theorem dX5_isGround_36 : decode cX5_isGround 36 = .ok (.iload_n 2, 1) := by decide +kernel
theorem dX5_isGround_37 : decode cX5_isGround 37 = .ok (.ifCond .eq 7, 3) := by decide +kernel
theorem dX5_isGround_40 : decode cX5_isGround 40 = .ok (.iconst 1, 1) := by decide +kernel
theorem dX5_isGround_41 : decode cX5_isGround 41 = .ok (.goto 4, 3) := by decide +kernel
theorem dX5_isGround_44 : decode cX5_isGround 44 = .ok (.iconst 0, 1) := by decide +kernel
theorem dX5_isGround_45 : decode cX5_isGround 45 = .ok (.istore_n 2, 1) := by decide +kernel
theorem dX5_isGround_46 : decode cX5_isGround 46 = .ok (.iinc 3 1, 3) := by decide +kernel
theorem dX5_isGround_49 : decode cX5_isGround 49 = .ok (.goto (-45), 3) := by decide +kernel
theorem dX5_isGround_52 : decode cX5_isGround 52 = .ok (.iload_n 2, 1) := by decide +kernel
theorem dX5_isGround_53 : decode cX5_isGround 53 = .ok (.ireturn, 1) := by decide +kernel
theorem dX5_where_0 : decode cX5_where 0 = .ok (.iload_n 1, 1) := by decide +kernel
theorem dX5_where_1 : decode cX5_where 1 = .ok (.i2l, 1) := by decide +kernel
theorem dX5_where_2 : decode cX5_where 2 = .ok (.lconst 0, 1) := by decide +kernel
theorem dX5_where_3 : decode cX5_where 3 = .ok (.ldc2_w 61, 3) := by decide +kernel
theorem dX5_where_6 : decode cX5_where 6 = .ok (.invokestatic 63, 3) := by decide +kernel
theorem dX5_where_9 : decode cX5_where 9 = .ok (.ifCond .ne 5, 3) := by decide +kernel
theorem dX5_where_12 : decode cX5_where 12 = .ok (.iconst (-1), 1) := by decide +kernel
theorem dX5_where_13 : decode cX5_where 13 = .ok (.ireturn, 1) := by decide +kernel
theorem dX5_where_14 : decode cX5_where 14 = .ok (.aload_n 0, 1) := by decide +kernel
theorem dX5_where_15 : decode cX5_where 15 = .ok (.getfield 97, 3) := by decide +kernel
theorem dX5_where_18 : decode cX5_where 18 = .ok (.ifCond .ne 6, 3) := by decide +kernel
theorem dX5_where_21 : decode cX5_where 21 = .ok (.bipush (-4), 2) := by decide +kernel
theorem dX5_where_23 : decode cX5_where 23 = .ok (.ireturn, 1) := by decide +kernel
theorem dX5_where_24 : decode cX5_where 24 = .ok (.aload_n 0, 1) := by decide +kernel
theorem dX5_where_25 : decode cX5_where 25 = .ok (.iload_n 1, 1) := by decide +kernel
theorem dX5_where_26 : decode cX5_where 26 = .ok (.invokevirtual 179, 3) := by decide +kernel
theorem dX5_where_29 : decode cX5_where 29 = .ok (.istore_n 2, 1) := by decide +kernel
theorem dX5_where_30 : decode cX5_where 30 = .ok (.iload_n 2, 1) := by decide +kernel
theorem dX5_where_31 : decode cX5_where 31 = .ok (.ifCond .le 9, 3) := by decide +kernel
theorem dX5_where_34 : decode cX5_where 34 = .ok (.aload_n 0, 1) := by decide +kernel
theorem dX5_where_35 : decode cX5_where 35 = .ok (.iload_n 2, 1) := by decide +kernel
theorem dX5_where_36 : decode cX5_where 36 = .ok (.invokevirtual 67, 3) := by decide +kernel
theorem dX5_where_39 : decode cX5_where 39 = .ok (.ireturn, 1) := by decide +kernel
theorem dX5_where_40 : decode cX5_where 40 = .ok (.iconst 0, 1) := by decide +kernel
theorem dX5_where_41 : decode cX5_where 41 = .ok (.istore_n 3, 1) := by decide +kernel
theorem dX5_where_42 : decode cX5_where 42 = .ok (.iconst 0, 1) := by decide +kernel
theorem dX5_where_43 : decode cX5_where 43 = .ok (.istore 4, 2) := by decide +kernel
theorem dX5_where_45 : decode cX5_where 45 = .ok (.iload 4, 2) := by decide +kernel
theorem dX5_where_47 : decode cX5_where 47 = .ok (.aload_n 0, 1) := by decide +kernel
theorem dX5_where_48 : decode cX5_where 48 = .ok (.getfield 97, 3) := by decide +kernel
theorem dX5_where_51 : decode cX5_where 51 = .ok (.if_icmp .ge 42, 3) := by decide +kernel
theorem dX5_where_54 : decode cX5_where 54 = .ok (.aload_n 0, 1) := by decide +kernel
theorem dX5_where_55 : decode cX5_where 55 = .ok (.invokevirtual 164, 3) := by decide +kernel
theorem dX5_where_58 : decode cX5_where 58 = .ok (.aload_n 0, 1) := by decide +kernel
theorem dX5_where_59 : decode cX5_where 59 = .ok (.getfield 41, 3) := by decide +kernel
theorem dX5_where_62 : decode cX5_where 62 = .ok (.sipush 984, 3) := by decide +kernel
theorem dX5_where_65 : decode cX5_where 65 = .ok (.iload 4, 2) := by decide +kernel
theorem dX5_where_67 : decode cX5_where 67 = .ok (.iastore, 1) := by decide +kernel
theorem dX5_where_68 : decode cX5_where 68 = .ok (.iload_n 3, 1) := by decide +kernel
theorem dX5_where_69 : decode cX5_where 69 = .ok (.aload_n 0, 1) := by decide +kernel
theorem dX5_where_70 : decode cX5_where 70 = .ok (.iload_n 1, 1) := by decide +kernel
theorem dX5_where_71 : decode cX5_where 71 = .ok (.invokevirtual 182, 3) := by decide +kernel
theorem dX5_where_74 : decode cX5_where 74 = .ok (.ifCond .eq 10, 3) := by decide +kernel
theorem dX5_where_77 : decode cX5_where 77 = .ok (.iconst 1, 1) := by decide +kernel
theorem dX5_where_78 : decode cX5_where 78 = .ok (.iload 4, 2) := by decide +kernel
theorem dX5_where_80 : decode cX5_where 80 = .ok (.ishl, 1) := by decide +kernel
theorem dX5_where_81 : decode cX5_where 81 = .ok (.goto 4, 3) := by decide +kernel
theorem dX5_where_84 : decode cX5_where 84 = .ok (.iconst 0, 1) := by decide +kernel
theorem dX5_where_85 : decode cX5_where 85 = .ok (.ior, 1) := by decide +kernel
theorem dX5_where_86 : decode cX5_where 86 = .ok (.istore_n 3, 1) := by decide +kernel
theorem dX5_where_87 : decode cX5_where 87 = .ok (.iinc 4 1, 3) := by decide +kernel
theorem dX5_where_90 : decode cX5_where 90 = .ok (.goto (-45), 3) := by decide +kernel
theorem dX5_where_93 : decode cX5_where 93 = .ok (.iload_n 3, 1) := by decide +kernel
theorem dX5_where_94 : decode cX5_where 94 = .ok (.ireturn, 1) := by decide +kernel
theorem dX5_flows_0 : decode cX5_flows 0 = .ok (.aload_n 0, 1) := by decide +kernel
theorem dX5_flows_1 : decode cX5_flows 1 = .ok (.iload_n 1, 1) := by decide +kernel
theorem dX5_flows_2 : decode cX5_flows 2 = .ok (.invokevirtual 133, 3) := by decide +kernel
theorem dX5_flows_5 : decode cX5_flows 5 = .ok (.ifCond .eq 15, 3) := by decide +kernel
theorem dX5_flows_8 : decode cX5_flows 8 = .ok (.iload_n 2, 1) := by decide +kernel
theorem dX5_flows_9 : decode cX5_flows 9 = .ok (.i2l, 1) := by decide +kernel
theorem dX5_flows_10 : decode cX5_flows 10 = .ok (.lconst 0, 1) := by decide +kernel
theorem dX5_flows_11 : decode cX5_flows 11 = .ok (.ldc2_w 61, 3) := by decide +kernel
theorem dX5_flows_14 : decode cX5_flows 14 = .ok (.invokestatic 63, 3) := by decide +kernel
theorem dX5_flows_17 : decode cX5_flows 17 = .ok (.ifCond .ne 5, 3) := by decide +kernel
theorem dX5_flows_20 : decode cX5_flows 20 = .ok (.iconst (-1), 1) := by decide +kernel
theorem dX5_flows_21 : decode cX5_flows 21 = .ok (.ireturn, 1) := by decide +kernel
theorem dX5_flows_22 : decode cX5_flows 22 = .ok (.aload_n 0, 1) := by decide +kernel
theorem dX5_flows_23 : decode cX5_flows 23 = .ok (.iload_n 2, 1) := by decide +kernel
theorem dX5_flows_24 : decode cX5_flows 24 = .ok (.invokevirtual 179, 3) := by decide +kernel
theorem dX5_flows_27 : decode cX5_flows 27 = .ok (.istore_n 3, 1) := by decide +kernel
theorem dX5_flows_28 : decode cX5_flows 28 = .ok (.iload_n 3, 1) := by decide +kernel
theorem dX5_flows_29 : decode cX5_flows 29 = .ok (.ifCond .le 9, 3) := by decide +kernel
theorem dX5_flows_32 : decode cX5_flows 32 = .ok (.aload_n 0, 1) := by decide +kernel
theorem dX5_flows_33 : decode cX5_flows 33 = .ok (.iload_n 3, 1) := by decide +kernel
theorem dX5_flows_34 : decode cX5_flows 34 = .ok (.invokevirtual 67, 3) := by decide +kernel
theorem dX5_flows_37 : decode cX5_flows 37 = .ok (.ireturn, 1) := by decide +kernel
theorem dX5_flows_38 : decode cX5_flows 38 = .ok (.aload_n 0, 1) := by decide +kernel
theorem dX5_flows_39 : decode cX5_flows 39 = .ok (.getfield 26, 3) := by decide +kernel
theorem dX5_flows_42 : decode cX5_flows 42 = .ok (.iload_n 1, 1) := by decide +kernel
theorem dX5_flows_43 : decode cX5_flows 43 = .ok (.iaload, 1) := by decide +kernel
theorem dX5_flows_44 : decode cX5_flows 44 = .ok (.istore 4, 2) := by decide +kernel
theorem dX5_flows_46 : decode cX5_flows 46 = .ok (.iconst 0, 1) := by decide +kernel
theorem dX5_flows_47 : decode cX5_flows 47 = .ok (.istore 5, 2) := by decide +kernel
theorem dX5_flows_49 : decode cX5_flows 49 = .ok (.iconst 0, 1) := by decide +kernel
theorem dX5_flows_50 : decode cX5_flows 50 = .ok (.istore 6, 2) := by decide +kernel
theorem dX5_flows_52 : decode cX5_flows 52 = .ok (.iload 6, 2) := by decide +kernel
theorem dX5_flows_54 : decode cX5_flows 54 = .ok (.bipush 10, 2) := by decide +kernel
theorem dX5_flows_56 : decode cX5_flows 56 = .ok (.if_icmp .ge 42, 3) := by decide +kernel
theorem dX5_flows_59 : decode cX5_flows 59 = .ok (.aload_n 0, 1) := by decide +kernel
theorem dX5_flows_60 : decode cX5_flows 60 = .ok (.getfield 26, 3) := by decide +kernel
theorem dX5_flows_63 : decode cX5_flows 63 = .ok (.iload_n 1, 1) := by decide +kernel
theorem dX5_flows_64 : decode cX5_flows 64 = .ok (.iload 6, 2) := by decide +kernel
theorem dX5_flows_66 : decode cX5_flows 66 = .ok (.iastore, 1) := by decide +kernel
theorem dX5_flows_67 : decode cX5_flows 67 = .ok (.aload_n 0, 1) := by decide +kernel
theorem dX5_flows_68 : decode cX5_flows 68 = .ok (.invokevirtual 164, 3) := by decide +kernel
theorem dX5_flows_71 : decode cX5_flows 71 = .ok (.iload 5, 2) := by decide +kernel
theorem dX5_flows_73 : decode cX5_flows 73 = .ok (.aload_n 0, 1) := by decide +kernel
theorem dX5_flows_74 : decode cX5_flows 74 = .ok (.iload_n 2, 1) := by decide +kernel
theorem dX5_flows_75 : decode cX5_flows 75 = .ok (.invokevirtual 182, 3) := by decide +kernel
theorem dX5_flows_78 : decode cX5_flows 78 = .ok (.ifCond .eq 10, 3) := by decide +kernel
theorem dX5_flows_81 : decode cX5_flows 81 = .ok (.iconst 1, 1) := by decide +kernel
theorem dX5_flows_82 : decode cX5_flows 82 = .ok (.iload 6, 2) := by decide +kernel
theorem dX5_flows_84 : decode cX5_flows 84 = .ok (.ishl, 1) := by decide +kernel
theorem dX5_flows_85 : decode cX5_flows 85 = .ok (.goto 4, 3) := by decide +kernel
theorem dX5_flows_88 : decode cX5_flows 88 = .ok (.iconst 0, 1) := by decide +kernel
theorem dX5_flows_89 : decode cX5_flows 89 = .ok (.ior, 1) := by decide +kernel
theorem dX5_flows_90 : decode cX5_flows 90 = .ok (.istore 5, 2) := by decide +kernel
theorem dX5_flows_92 : decode cX5_flows 92 = .ok (.iinc 6 1, 3) := by decide +kernel
theorem dX5_flows_95 : decode cX5_flows 95 = .ok (.goto (-43), 3) := by decide +kernel
theorem dX5_flows_98 : decode cX5_flows 98 = .ok (.aload_n 0, 1) := by decide +kernel
theorem dX5_flows_99 : decode cX5_flows 99 = .ok (.getfield 26, 3) := by decide +kernel
theorem dX5_flows_102 : decode cX5_flows 102 = .ok (.iload_n 1, 1) := by decide +kernel
theorem dX5_flows_103 : decode cX5_flows 103 = .ok (.iload 4, 2) := by decide +kernel
theorem dX5_flows_105 : decode cX5_flows 105 = .ok (.iastore, 1) := by decide +kernel
theorem dX5_flows_106 : decode cX5_flows 106 = .ok (.iload 5, 2) := by decide +kernel
theorem dX5_flows_108 : decode cX5_flows 108 = .ok (.ireturn, 1) := by decide +kernel
theorem dX5_kinds_0 : decode cX5_kinds 0 = .ok (.aload_n 0, 1) := by decide +kernel
theorem dX5_kinds_1 : decode cX5_kinds 1 = .ok (.iload_n 1, 1) := by decide +kernel
theorem dX5_kinds_2 : decode cX5_kinds 2 = .ok (.invokevirtual 133, 3) := by decide +kernel
theorem dX5_kinds_5 : decode cX5_kinds 5 = .ok (.ifCond .eq 15, 3) := by decide +kernel
theorem dX5_kinds_8 : decode cX5_kinds 8 = .ok (.iload_n 2, 1) := by decide +kernel
theorem dX5_kinds_9 : decode cX5_kinds 9 = .ok (.i2l, 1) := by decide +kernel
theorem dX5_kinds_10 : decode cX5_kinds 10 = .ok (.lconst 0, 1) := by decide +kernel
theorem dX5_kinds_11 : decode cX5_kinds 11 = .ok (.ldc2_w 61, 3) := by decide +kernel
theorem dX5_kinds_14 : decode cX5_kinds 14 = .ok (.invokestatic 63, 3) := by decide +kernel
theorem dX5_kinds_17 : decode cX5_kinds 17 = .ok (.ifCond .ne 5, 3) := by decide +kernel
theorem dX5_kinds_20 : decode cX5_kinds 20 = .ok (.iconst (-1), 1) := by decide +kernel
theorem dX5_kinds_21 : decode cX5_kinds 21 = .ok (.ireturn, 1) := by decide +kernel
theorem dX5_kinds_22 : decode cX5_kinds 22 = .ok (.aload_n 0, 1) := by decide +kernel
theorem dX5_kinds_23 : decode cX5_kinds 23 = .ok (.iload_n 2, 1) := by decide +kernel
theorem dX5_kinds_24 : decode cX5_kinds 24 = .ok (.invokevirtual 179, 3) := by decide +kernel
theorem dX5_kinds_27 : decode cX5_kinds 27 = .ok (.istore_n 3, 1) := by decide +kernel
theorem dX5_kinds_28 : decode cX5_kinds 28 = .ok (.iload_n 3, 1) := by decide +kernel
theorem dX5_kinds_29 : decode cX5_kinds 29 = .ok (.ifCond .le 9, 3) := by decide +kernel
theorem dX5_kinds_32 : decode cX5_kinds 32 = .ok (.aload_n 0, 1) := by decide +kernel
theorem dX5_kinds_33 : decode cX5_kinds 33 = .ok (.iload_n 3, 1) := by decide +kernel
theorem dX5_kinds_34 : decode cX5_kinds 34 = .ok (.invokevirtual 67, 3) := by decide +kernel
theorem dX5_kinds_37 : decode cX5_kinds 37 = .ok (.ireturn, 1) := by decide +kernel
theorem dX5_kinds_38 : decode cX5_kinds 38 = .ok (.aload_n 0, 1) := by decide +kernel
theorem dX5_kinds_39 : decode cX5_kinds 39 = .ok (.getfield 23, 3) := by decide +kernel
theorem dX5_kinds_42 : decode cX5_kinds 42 = .ok (.iload_n 1, 1) := by decide +kernel
theorem dX5_kinds_43 : decode cX5_kinds 43 = .ok (.iaload, 1) := by decide +kernel
theorem dX5_kinds_44 : decode cX5_kinds 44 = .ok (.istore 4, 2) := by decide +kernel
theorem dX5_kinds_46 : decode cX5_kinds 46 = .ok (.iconst 0, 1) := by decide +kernel
theorem dX5_kinds_47 : decode cX5_kinds 47 = .ok (.istore 5, 2) := by decide +kernel
theorem dX5_kinds_49 : decode cX5_kinds 49 = .ok (.iconst 0, 1) := by decide +kernel
theorem dX5_kinds_50 : decode cX5_kinds 50 = .ok (.istore 6, 2) := by decide +kernel
theorem dX5_kinds_52 : decode cX5_kinds 52 = .ok (.iload 6, 2) := by decide +kernel
theorem dX5_kinds_54 : decode cX5_kinds 54 = .ok (.bipush 6, 2) := by decide +kernel
theorem dX5_kinds_56 : decode cX5_kinds 56 = .ok (.if_icmp .ge 42, 3) := by decide +kernel
theorem dX5_kinds_59 : decode cX5_kinds 59 = .ok (.aload_n 0, 1) := by decide +kernel
theorem dX5_kinds_60 : decode cX5_kinds 60 = .ok (.getfield 23, 3) := by decide +kernel
theorem dX5_kinds_63 : decode cX5_kinds 63 = .ok (.iload_n 1, 1) := by decide +kernel
theorem dX5_kinds_64 : decode cX5_kinds 64 = .ok (.iload 6, 2) := by decide +kernel
theorem dX5_kinds_66 : decode cX5_kinds 66 = .ok (.iastore, 1) := by decide +kernel
theorem dX5_kinds_67 : decode cX5_kinds 67 = .ok (.aload_n 0, 1) := by decide +kernel
theorem dX5_kinds_68 : decode cX5_kinds 68 = .ok (.invokevirtual 164, 3) := by decide +kernel
theorem dX5_kinds_71 : decode cX5_kinds 71 = .ok (.iload 5, 2) := by decide +kernel
theorem dX5_kinds_73 : decode cX5_kinds 73 = .ok (.aload_n 0, 1) := by decide +kernel
theorem dX5_kinds_74 : decode cX5_kinds 74 = .ok (.iload_n 2, 1) := by decide +kernel
theorem dX5_kinds_75 : decode cX5_kinds 75 = .ok (.invokevirtual 182, 3) := by decide +kernel
theorem dX5_kinds_78 : decode cX5_kinds 78 = .ok (.ifCond .eq 10, 3) := by decide +kernel
theorem dX5_kinds_81 : decode cX5_kinds 81 = .ok (.iconst 1, 1) := by decide +kernel
theorem dX5_kinds_82 : decode cX5_kinds 82 = .ok (.iload 6, 2) := by decide +kernel
theorem dX5_kinds_84 : decode cX5_kinds 84 = .ok (.ishl, 1) := by decide +kernel
theorem dX5_kinds_85 : decode cX5_kinds 85 = .ok (.goto 4, 3) := by decide +kernel
theorem dX5_kinds_88 : decode cX5_kinds 88 = .ok (.iconst 0, 1) := by decide +kernel
theorem dX5_kinds_89 : decode cX5_kinds 89 = .ok (.ior, 1) := by decide +kernel
theorem dX5_kinds_90 : decode cX5_kinds 90 = .ok (.istore 5, 2) := by decide +kernel
theorem dX5_kinds_92 : decode cX5_kinds 92 = .ok (.iinc 6 1, 3) := by decide +kernel
theorem dX5_kinds_95 : decode cX5_kinds 95 = .ok (.goto (-43), 3) := by decide +kernel
theorem dX5_kinds_98 : decode cX5_kinds 98 = .ok (.aload_n 0, 1) := by decide +kernel
theorem dX5_kinds_99 : decode cX5_kinds 99 = .ok (.getfield 23, 3) := by decide +kernel
theorem dX5_kinds_102 : decode cX5_kinds 102 = .ok (.iload_n 1, 1) := by decide +kernel
theorem dX5_kinds_103 : decode cX5_kinds 103 = .ok (.iload 4, 2) := by decide +kernel
theorem dX5_kinds_105 : decode cX5_kinds 105 = .ok (.iastore, 1) := by decide +kernel
theorem dX5_kinds_106 : decode cX5_kinds 106 = .ok (.iload 5, 2) := by decide +kernel
theorem dX5_kinds_108 : decode cX5_kinds 108 = .ok (.ireturn, 1) := by decide +kernel
theorem dX5_greatest_0 : decode cX5_greatest 0 = .ok (.aload_n 0, 1) := by decide +kernel
theorem dX5_greatest_1 : decode cX5_greatest 1 = .ok (.invokevirtual 123, 3) := by decide +kernel
theorem dX5_greatest_4 : decode cX5_greatest 4 = .ok (.istore_n 3, 1) := by decide +kernel
theorem dX5_greatest_5 : decode cX5_greatest 5 = .ok (.iconst 0, 1) := by decide +kernel
theorem dX5_greatest_6 : decode cX5_greatest 6 = .ok (.istore 4, 2) := by decide +kernel
theorem dX5_greatest_8 : decode cX5_greatest 8 = .ok (.iconst 0, 1) := by decide +kernel
theorem dX5_greatest_9 : decode cX5_greatest 9 = .ok (.istore 5, 2) := by decide +kernel
theorem dX5_greatest_11 : decode cX5_greatest 11 = .ok (.iload 5, 2) := by decide +kernel
theorem dX5_greatest_13 : decode cX5_greatest 13 = .ok (.bipush 6, 2) := by decide +kernel
theorem dX5_greatest_15 : decode cX5_greatest 15 = .ok (.if_icmp .ge 102, 3) := by decide +kernel
theorem dX5_greatest_18 : decode cX5_greatest 18 = .ok (.iconst 0, 1) := by decide +kernel
theorem dX5_greatest_19 : decode cX5_greatest 19 = .ok (.istore 6, 2) := by decide +kernel
theorem dX5_greatest_21 : decode cX5_greatest 21 = .ok (.iconst 0, 1) := by decide +kernel
theorem dX5_greatest_22 : decode cX5_greatest 22 = .ok (.istore 7, 2) := by decide +kernel
theorem dX5_greatest_24 : decode cX5_greatest 24 = .ok (.iload 7, 2) := by decide +kernel
theorem dX5_greatest_26 : decode cX5_greatest 26 = .ok (.bipush 6, 2) := by decide +kernel
theorem dX5_greatest_28 : decode cX5_greatest 28 = .ok (.if_icmp .ge 74, 3) := by decide +kernel
theorem dX5_greatest_31 : decode cX5_greatest 31 = .ok (.iload 6, 2) := by decide +kernel
theorem dX5_greatest_33 : decode cX5_greatest 33 = .ok (.iload 5, 2) := by decide +kernel
theorem dX5_greatest_35 : decode cX5_greatest 35 = .ok (.aload_n 0, 1) := by decide +kernel
theorem dX5_greatest_36 : decode cX5_greatest 36 = .ok (.getfield 26, 3) := by decide +kernel
theorem dX5_greatest_39 : decode cX5_greatest 39 = .ok (.iload_n 1, 1) := by decide +kernel
theorem dX5_greatest_40 : decode cX5_greatest 40 = .ok (.iaload, 1) := by decide +kernel
theorem dX5_greatest_41 : decode cX5_greatest 41 = .ok (.aload_n 0, 1) := by decide +kernel
theorem dX5_greatest_42 : decode cX5_greatest 42 = .ok (.iload_n 3, 1) := by decide +kernel
theorem dX5_greatest_43 : decode cX5_greatest 43 = .ok (.iload_n 1, 1) := by decide +kernel
theorem dX5_greatest_44 : decode cX5_greatest 44 = .ok (.invokevirtual 113, 3) := by decide +kernel
theorem dX5_greatest_47 : decode cX5_greatest 47 = .ok (.iload_n 2, 1) := by decide +kernel
theorem dX5_greatest_48 : decode cX5_greatest 48 = .ok (.aload_n 0, 1) := by decide +kernel
theorem dX5_greatest_49 : decode cX5_greatest 49 = .ok (.getfield 41, 3) := by decide +kernel
theorem dX5_greatest_52 : decode cX5_greatest 52 = .ok (.iload_n 3, 1) := by decide +kernel
theorem dX5_greatest_53 : decode cX5_greatest 53 = .ok (.iconst 2, 1) := by decide +kernel
theorem dX5_greatest_54 : decode cX5_greatest 54 = .ok (.iadd, 1) := by decide +kernel
theorem dX5_greatest_55 : decode cX5_greatest 55 = .ok (.iaload, 1) := by decide +kernel
theorem dX5_greatest_56 : decode cX5_greatest 56 = .ok (.invokestatic 116, 3) := by decide +kernel
theorem dX5_greatest_59 : decode cX5_greatest 59 = .ok (.iload 7, 2) := by decide +kernel
theorem dX5_greatest_61 : decode cX5_greatest 61 = .ok (.aload_n 0, 1) := by decide +kernel
theorem dX5_greatest_62 : decode cX5_greatest 62 = .ok (.getfield 26, 3) := by decide +kernel
theorem dX5_greatest_65 : decode cX5_greatest 65 = .ok (.iload_n 1, 1) := by decide +kernel
theorem dX5_greatest_66 : decode cX5_greatest 66 = .ok (.iaload, 1) := by decide +kernel
theorem dX5_greatest_67 : decode cX5_greatest 67 = .ok (.aload_n 0, 1) := by decide +kernel
theorem dX5_greatest_68 : decode cX5_greatest 68 = .ok (.iload_n 3, 1) := by decide +kernel
theorem dX5_greatest_69 : decode cX5_greatest 69 = .ok (.iload_n 1, 1) := by decide +kernel
theorem dX5_greatest_70 : decode cX5_greatest 70 = .ok (.invokevirtual 113, 3) := by decide +kernel
theorem dX5_greatest_73 : decode cX5_greatest 73 = .ok (.iload_n 2, 1) := by decide +kernel
theorem dX5_greatest_74 : decode cX5_greatest 74 = .ok (.aload_n 0, 1) := by decide +kernel
theorem dX5_greatest_75 : decode cX5_greatest 75 = .ok (.getfield 41, 3) := by decide +kernel
theorem dX5_greatest_78 : decode cX5_greatest 78 = .ok (.iload_n 3, 1) := by decide +kernel
theorem dX5_greatest_79 : decode cX5_greatest 79 = .ok (.iconst 2, 1) := by decide +kernel
theorem dX5_greatest_80 : decode cX5_greatest 80 = .ok (.iadd, 1) := by decide +kernel
theorem dX5_greatest_81 : decode cX5_greatest 81 = .ok (.iaload, 1) := by decide +kernel
theorem dX5_greatest_82 : decode cX5_greatest 82 = .ok (.invokestatic 116, 3) := by decide +kernel
theorem dX5_greatest_85 : decode cX5_greatest 85 = .ok (.if_icmp .ne 7, 3) := by decide +kernel
theorem dX5_greatest_88 : decode cX5_greatest 88 = .ok (.iconst 1, 1) := by decide +kernel
theorem dX5_greatest_89 : decode cX5_greatest 89 = .ok (.goto 4, 3) := by decide +kernel
theorem dX5_greatest_92 : decode cX5_greatest 92 = .ok (.iconst 0, 1) := by decide +kernel
theorem dX5_greatest_93 : decode cX5_greatest 93 = .ok (.iadd, 1) := by decide +kernel
theorem dX5_greatest_94 : decode cX5_greatest 94 = .ok (.istore 6, 2) := by decide +kernel
theorem dX5_greatest_96 : decode cX5_greatest 96 = .ok (.iinc 7 1, 3) := by decide +kernel
theorem dX5_greatest_99 : decode cX5_greatest 99 = .ok (.goto (-75), 3) := by decide +kernel
theorem dX5_greatest_102 : decode cX5_greatest 102 = .ok (.iload 4, 2) := by decide +kernel
theorem dX5_greatest_104 : decode cX5_greatest 104 = .ok (.iload 6, 2) := by decide +kernel
theorem dX5_greatest_106 : decode cX5_greatest 106 = .ok (.invokestatic 106, 3) := by decide +kernel
theorem dX5_greatest_109 : decode cX5_greatest 109 = .ok (.istore 4, 2) := by decide +kernel
theorem dX5_greatest_111 : decode cX5_greatest 111 = .ok (.iinc 5 1, 3) := by decide +kernel
theorem dX5_greatest_114 : decode cX5_greatest 114 = .ok (.goto (-103), 3) := by decide +kernel
theorem dX5_greatest_117 : decode cX5_greatest 117 = .ok (.iload 4, 2) := by decide +kernel
theorem dX5_greatest_119 : decode cX5_greatest 119 = .ok (.ireturn, 1) := by decide +kernel
theorem dX5_look_0 : decode cX5_look 0 = .ok (.aload_n 0, 1) := by decide +kernel
theorem dX5_look_1 : decode cX5_look 1 = .ok (.iload_n 1, 1) := by decide +kernel
theorem dX5_look_2 : decode cX5_look 2 = .ok (.invokevirtual 133, 3) := by decide +kernel
theorem dX5_look_5 : decode cX5_look 5 = .ok (.ifCond .ne 5, 3) := by decide +kernel
theorem dX5_look_8 : decode cX5_look 8 = .ok (.iconst (-1), 1) := by decide +kernel
theorem dX5_look_9 : decode cX5_look 9 = .ok (.ireturn, 1) := by decide +kernel
theorem dX5_look_10 : decode cX5_look 10 = .ok (.iconst 0, 1) := by decide +kernel
theorem dX5_look_11 : decode cX5_look 11 = .ok (.istore_n 2, 1) := by decide +kernel
theorem dX5_look_12 : decode cX5_look 12 = .ok (.iconst 1, 1) := by decide +kernel
theorem dX5_look_13 : decode cX5_look 13 = .ok (.istore_n 3, 1) := by decide +kernel
theorem dX5_look_14 : decode cX5_look 14 = .ok (.iload_n 3, 1) := by decide +kernel
theorem dX5_look_15 : decode cX5_look 15 = .ok (.iconst 5, 1) := by decide +kernel
theorem dX5_look_16 : decode cX5_look 16 = .ok (.if_icmp .ge 30, 3) := by decide +kernel
theorem dX5_look_19 : decode cX5_look 19 = .ok (.aload_n 0, 1) := by decide +kernel
theorem dX5_look_20 : decode cX5_look 20 = .ok (.iload_n 1, 1) := by decide +kernel
theorem dX5_look_21 : decode cX5_look 21 = .ok (.iload_n 3, 1) := by decide +kernel
theorem dX5_look_22 : decode cX5_look 22 = .ok (.invokevirtual 185, 3) := by decide +kernel
theorem dX5_look_25 : decode cX5_look 25 = .ok (.aload_n 0, 1) := by decide +kernel
theorem dX5_look_26 : decode cX5_look 26 = .ok (.iload_n 1, 1) := by decide +kernel
theorem dX5_look_27 : decode cX5_look 27 = .ok (.iload_n 2, 1) := by decide +kernel
theorem dX5_look_28 : decode cX5_look 28 = .ok (.invokevirtual 185, 3) := by decide +kernel
theorem dX5_look_31 : decode cX5_look 31 = .ok (.if_icmp .ge 7, 3) := by decide +kernel
theorem dX5_look_34 : decode cX5_look 34 = .ok (.iload_n 3, 1) := by decide +kernel
theorem dX5_look_35 : decode cX5_look 35 = .ok (.goto 4, 3) := by decide +kernel
theorem dX5_look_38 : decode cX5_look 38 = .ok (.iload_n 2, 1) := by decide +kernel
theorem dX5_look_39 : decode cX5_look 39 = .ok (.istore_n 2, 1) := by decide +kernel
theorem dX5_look_40 : decode cX5_look 40 = .ok (.iinc 3 1, 3) := by decide +kernel
theorem dX5_look_43 : decode cX5_look 43 = .ok (.goto (-29), 3) := by decide +kernel
theorem dX5_look_46 : decode cX5_look 46 = .ok (.aload_n 0, 1) := by decide +kernel
theorem dX5_look_47 : decode cX5_look 47 = .ok (.aload_n 0, 1) := by decide +kernel
theorem dX5_look_48 : decode cX5_look 48 = .ok (.iload_n 1, 1) := by decide +kernel
theorem dX5_look_49 : decode cX5_look 49 = .ok (.iload_n 2, 1) := by decide +kernel
theorem dX5_look_50 : decode cX5_look 50 = .ok (.invokevirtual 185, 3) := by decide +kernel
theorem dX5_look_53 : decode cX5_look 53 = .ok (.putfield 75, 3) := by decide +kernel
theorem dX5_look_56 : decode cX5_look 56 = .ok (.iload_n 2, 1) := by decide +kernel
theorem dX5_look_57 : decode cX5_look 57 = .ok (.ireturn, 1) := by decide +kernel
theorem dX5_played_0 : decode cX5_played 0 = .ok (.aload_n 0, 1) := by decide +kernel
theorem dX5_played_1 : decode cX5_played 1 = .ok (.invokevirtual 164, 3) := by decide +kernel
theorem dX5_played_4 : decode cX5_played 4 = .ok (.iload_n 2, 1) := by decide +kernel
theorem dX5_played_5 : decode cX5_played 5 = .ok (.istore_n 3, 1) := by decide +kernel
theorem dX5_played_6 : decode cX5_played 6 = .ok (.iconst 0, 1) := by decide +kernel
theorem dX5_played_7 : decode cX5_played 7 = .ok (.istore 4, 2) := by decide +kernel
theorem dX5_played_9 : decode cX5_played 9 = .ok (.iload 4, 2) := by decide +kernel
theorem dX5_played_11 : decode cX5_played 11 = .ok (.iload_n 1, 1) := by decide +kernel
theorem dX5_played_12 : decode cX5_played 12 = .ok (.if_icmp .ge 134, 3) := by decide +kernel
theorem dX5_played_15 : decode cX5_played 15 = .ok (.iload_n 3, 1) := by decide +kernel
theorem dX5_played_16 : decode cX5_played 16 = .ok (.iload 4, 2) := by decide +kernel
theorem dX5_played_18 : decode cX5_played 18 = .ok (.iconst 2, 1) := by decide +kernel
theorem dX5_played_19 : decode cX5_played 19 = .ok (.irem, 1) := by decide +kernel
theorem dX5_played_20 : decode cX5_played 20 = .ok (.ifCond .ne 7, 3) := by decide +kernel
theorem dX5_played_23 : decode cX5_played 23 = .ok (.iconst 3, 1) := by decide +kernel
theorem dX5_played_24 : decode cX5_played 24 = .ok (.goto 4, 3) := by decide +kernel
theorem dX5_played_27 : decode cX5_played 27 = .ok (.iconst 2, 1) := by decide +kernel
theorem dX5_played_28 : decode cX5_played 28 = .ok (.irem, 1) := by decide +kernel
theorem dX5_played_29 : decode cX5_played 29 = .ok (.istore 5, 2) := by decide +kernel
theorem dX5_played_31 : decode cX5_played 31 = .ok (.iload_n 3, 1) := by decide +kernel
theorem dX5_played_32 : decode cX5_played 32 = .ok (.iload 4, 2) := by decide +kernel
theorem dX5_played_34 : decode cX5_played 34 = .ok (.iconst 2, 1) := by decide +kernel
theorem dX5_played_35 : decode cX5_played 35 = .ok (.irem, 1) := by decide +kernel
theorem dX5_played_36 : decode cX5_played 36 = .ok (.ifCond .ne 7, 3) := by decide +kernel
theorem dX5_played_39 : decode cX5_played 39 = .ok (.iconst 3, 1) := by decide +kernel
theorem dX5_played_40 : decode cX5_played 40 = .ok (.goto 4, 3) := by decide +kernel
theorem dX5_played_43 : decode cX5_played 43 = .ok (.iconst 2, 1) := by decide +kernel
theorem dX5_played_44 : decode cX5_played 44 = .ok (.idiv, 1) := by decide +kernel
theorem dX5_played_45 : decode cX5_played 45 = .ok (.istore_n 3, 1) := by decide +kernel
theorem dX5_played_46 : decode cX5_played 46 = .ok (.iload 4, 2) := by decide +kernel
theorem dX5_played_48 : decode cX5_played 48 = .ok (.iconst 2, 1) := by decide +kernel
theorem dX5_played_49 : decode cX5_played 49 = .ok (.irem, 1) := by decide +kernel
theorem dX5_played_50 : decode cX5_played 50 = .ok (.ifCond .ne 64, 3) := by decide +kernel
theorem dX5_played_53 : decode cX5_played 53 = .ok (.aload_n 0, 1) := by decide +kernel
theorem dX5_played_54 : decode cX5_played 54 = .ok (.getfield 41, 3) := by decide +kernel
theorem dX5_played_57 : decode cX5_played 57 = .ok (.sipush 986, 3) := by decide +kernel
theorem dX5_played_60 : decode cX5_played 60 = .ok (.iload 5, 2) := by decide +kernel
theorem dX5_played_62 : decode cX5_played 62 = .ok (.iconst 1, 1) := by decide +kernel
theorem dX5_played_63 : decode cX5_played 63 = .ok (.if_icmp .ne 7, 3) := by decide +kernel
theorem dX5_played_66 : decode cX5_played 66 = .ok (.iconst 0, 1) := by decide +kernel
theorem dX5_played_67 : decode cX5_played 67 = .ok (.goto 11, 3) := by decide +kernel
theorem dX5_played_70 : decode cX5_played 70 = .ok (.aload_n 0, 1) := by decide +kernel
theorem dX5_played_71 : decode cX5_played 71 = .ok (.getfield 41, 3) := by decide +kernel
theorem dX5_played_74 : decode cX5_played 74 = .ok (.sipush 986, 3) := by decide +kernel
theorem dX5_played_77 : decode cX5_played 77 = .ok (.iaload, 1) := by decide +kernel
theorem dX5_played_78 : decode cX5_played 78 = .ok (.iastore, 1) := by decide +kernel
theorem dX5_played_79 : decode cX5_played 79 = .ok (.aload_n 0, 1) := by decide +kernel
theorem dX5_played_80 : decode cX5_played 80 = .ok (.getfield 41, 3) := by decide +kernel
theorem dX5_played_83 : decode cX5_played 83 = .ok (.sipush 985, 3) := by decide +kernel
theorem dX5_played_86 : decode cX5_played 86 = .ok (.iconst 4, 1) := by decide +kernel
theorem dX5_played_87 : decode cX5_played 87 = .ok (.aload_n 0, 1) := by decide +kernel
theorem dX5_played_88 : decode cX5_played 88 = .ok (.getfield 41, 3) := by decide +kernel
theorem dX5_played_91 : decode cX5_played 91 = .ok (.sipush 985, 3) := by decide +kernel
theorem dX5_played_94 : decode cX5_played 94 = .ok (.iaload, 1) := by decide +kernel
theorem dX5_played_95 : decode cX5_played 95 = .ok (.iload 5, 2) := by decide +kernel
theorem dX5_played_97 : decode cX5_played 97 = .ok (.iconst 2, 1) := by decide +kernel
theorem dX5_played_98 : decode cX5_played 98 = .ok (.if_icmp .ne 7, 3) := by decide +kernel
theorem dX5_played_101 : decode cX5_played 101 = .ok (.iconst 1, 1) := by decide +kernel
theorem dX5_played_102 : decode cX5_played 102 = .ok (.goto 4, 3) := by decide +kernel
theorem dX5_played_105 : decode cX5_played 105 = .ok (.iconst 0, 1) := by decide +kernel
theorem dX5_played_106 : decode cX5_played 106 = .ok (.iadd, 1) := by decide +kernel
theorem dX5_played_107 : decode cX5_played 107 = .ok (.invokestatic 103, 3) := by decide +kernel
theorem dX5_played_110 : decode cX5_played 110 = .ok (.iastore, 1) := by decide +kernel
theorem dX5_played_111 : decode cX5_played 111 = .ok (.goto 29, 3) := by decide +kernel
theorem dX5_played_114 : decode cX5_played 114 = .ok (.aload_n 0, 1) := by decide +kernel
theorem dX5_played_115 : decode cX5_played 115 = .ok (.getfield 41, 3) := by decide +kernel
theorem dX5_played_118 : decode cX5_played 118 = .ok (.sipush 986, 3) := by decide +kernel
theorem dX5_played_121 : decode cX5_played 121 = .ok (.bipush 40, 2) := by decide +kernel
theorem dX5_played_123 : decode cX5_played 123 = .ok (.aload_n 0, 1) := by decide +kernel
theorem dX5_played_124 : decode cX5_played 124 = .ok (.getfield 41, 3) := by decide +kernel
theorem dX5_played_127 : decode cX5_played 127 = .ok (.sipush 986, 3) := by decide +kernel
theorem dX5_played_130 : decode cX5_played 130 = .ok (.iaload, 1) := by decide +kernel
theorem dX5_played_131 : decode cX5_played 131 = .ok (.iconst 5, 1) := by decide +kernel
theorem dX5_played_132 : decode cX5_played 132 = .ok (.iload 5, 2) := by decide +kernel
theorem dX5_played_134 : decode cX5_played 134 = .ok (.imul, 1) := by decide +kernel
theorem dX5_played_135 : decode cX5_played 135 = .ok (.iadd, 1) := by decide +kernel
theorem dX5_played_136 : decode cX5_played 136 = .ok (.invokestatic 103, 3) := by decide +kernel
theorem dX5_played_139 : decode cX5_played 139 = .ok (.iastore, 1) := by decide +kernel
theorem dX5_played_140 : decode cX5_played 140 = .ok (.iinc 4 1, 3) := by decide +kernel
theorem dX5_played_143 : decode cX5_played 143 = .ok (.goto (-134), 3) := by decide +kernel
theorem dX5_played_146 : decode cX5_played 146 = .ok (.aload_n 0, 1) := by decide +kernel
theorem dX5_played_147 : decode cX5_played 147 = .ok (.bipush 8, 2) := by decide +kernel
theorem dX5_played_149 : decode cX5_played 149 = .ok (.invokevirtual 167, 3) := by decide +kernel
theorem dX5_played_152 : decode cX5_played 152 = .ok (.ireturn, 1) := by decide +kernel
theorem dX5_duel_0 : decode cX5_duel 0 = .ok (.iload_n 1, 1) := by decide +kernel
theorem dX5_duel_1 : decode cX5_duel 1 = .ok (.i2l, 1) := by decide +kernel
theorem dX5_duel_2 : decode cX5_duel 2 = .ok (.lconst 0, 1) := by decide +kernel
theorem dX5_duel_3 : decode cX5_duel 3 = .ok (.ldc2_w 188, 3) := by decide +kernel
theorem dX5_duel_6 : decode cX5_duel 6 = .ok (.invokestatic 63, 3) := by decide +kernel
theorem dX5_duel_9 : decode cX5_duel 9 = .ok (.ifCond .ne 5, 3) := by decide +kernel
theorem dX5_duel_12 : decode cX5_duel 12 = .ok (.iconst (-1), 1) := by decide +kernel
theorem dX5_duel_13 : decode cX5_duel 13 = .ok (.ireturn, 1) := by decide +kernel
theorem dX5_duel_14 : decode cX5_duel 14 = .ok (.aload_n 0, 1) := by decide +kernel
theorem dX5_duel_15 : decode cX5_duel 15 = .ok (.getfield 97, 3) := by decide +kernel
theorem dX5_duel_18 : decode cX5_duel 18 = .ok (.ifCond .ne 6, 3) := by decide +kernel
theorem dX5_duel_21 : decode cX5_duel 21 = .ok (.bipush (-4), 2) := by decide +kernel
theorem dX5_duel_23 : decode cX5_duel 23 = .ok (.ireturn, 1) := by decide +kernel
theorem dX5_duel_24 : decode cX5_duel 24 = .ok (.iconst 1, 1) := by decide +kernel
theorem dX5_duel_25 : decode cX5_duel 25 = .ok (.istore_n 2, 1) := by decide +kernel
theorem dX5_duel_26 : decode cX5_duel 26 = .ok (.iconst 0, 1) := by decide +kernel
theorem dX5_duel_27 : decode cX5_duel 27 = .ok (.istore_n 3, 1) := by decide +kernel
theorem dX5_duel_28 : decode cX5_duel 28 = .ok (.iload_n 3, 1) := by decide +kernel
theorem dX5_duel_29 : decode cX5_duel 29 = .ok (.iload_n 1, 1) := by decide +kernel
theorem dX5_duel_30 : decode cX5_duel 30 = .ok (.if_icmp .ge 23, 3) := by decide +kernel
theorem dX5_duel_33 : decode cX5_duel 33 = .ok (.iload_n 2, 1) := by decide +kernel
theorem dX5_duel_34 : decode cX5_duel 34 = .ok (.iload_n 3, 1) := by decide +kernel
theorem dX5_duel_35 : decode cX5_duel 35 = .ok (.iconst 2, 1) := by decide +kernel
theorem dX5_duel_36 : decode cX5_duel 36 = .ok (.irem, 1) := by decide +kernel
theorem dX5_duel_37 : decode cX5_duel 37 = .ok (.ifCond .ne 7, 3) := by decide +kernel
theorem dX5_duel_40 : decode cX5_duel 40 = .ok (.iconst 3, 1) := by decide +kernel
theorem dX5_duel_41 : decode cX5_duel 41 = .ok (.goto 4, 3) := by decide +kernel
theorem dX5_duel_44 : decode cX5_duel 44 = .ok (.iconst 2, 1) := by decide +kernel
theorem dX5_duel_45 : decode cX5_duel 45 = .ok (.imul, 1) := by decide +kernel
theorem dX5_duel_46 : decode cX5_duel 46 = .ok (.istore_n 2, 1) := by decide +kernel
theorem dX5_duel_47 : decode cX5_duel 47 = .ok (.iinc 3 1, 3) := by decide +kernel
theorem dX5_duel_50 : decode cX5_duel 50 = .ok (.goto (-22), 3) := by decide +kernel
theorem dX5_duel_53 : decode cX5_duel 53 = .ok (.iconst 0, 1) := by decide +kernel
theorem dX5_duel_54 : decode cX5_duel 54 = .ok (.istore_n 3, 1) := by decide +kernel
theorem dX5_duel_55 : decode cX5_duel 55 = .ok (.iload_n 3, 1) := by decide +kernel
theorem dX5_duel_56 : decode cX5_duel 56 = .ok (.iload_n 2, 1) := by decide +kernel
theorem dX5_duel_57 : decode cX5_duel 57 = .ok (.if_icmp .ge 21, 3) := by decide +kernel
theorem dX5_duel_60 : decode cX5_duel 60 = .ok (.aload_n 0, 1) := by decide +kernel
theorem dX5_duel_61 : decode cX5_duel 61 = .ok (.getfield 54, 3) := by decide +kernel
theorem dX5_duel_64 : decode cX5_duel 64 = .ok (.iload_n 3, 1) := by decide +kernel
theorem dX5_duel_65 : decode cX5_duel 65 = .ok (.aload_n 0, 1) := by decide +kernel
theorem dX5_duel_66 : decode cX5_duel 66 = .ok (.iload_n 1, 1) := by decide +kernel
theorem dX5_duel_67 : decode cX5_duel 67 = .ok (.iload_n 3, 1) := by decide +kernel
theorem dX5_duel_68 : decode cX5_duel 68 = .ok (.invokevirtual 190, 3) := by decide +kernel
theorem dX5_duel_71 : decode cX5_duel 71 = .ok (.iastore, 1) := by decide +kernel
theorem dX5_duel_72 : decode cX5_duel 72 = .ok (.iinc 3 1, 3) := by decide +kernel
theorem dX5_duel_75 : decode cX5_duel 75 = .ok (.goto (-20), 3) := by decide +kernel
