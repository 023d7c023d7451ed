theorem dX0_init_0 : decode cX0_init 0 = .ok (.aload_n 0, 1) := by decide +kernel
theorem dX0_init_1 : decode cX0_init 1 = .ok (.invokespecial 3, 3) := by decide +kernel
theorem dX0_init_4 : decode cX0_init 4 = .ok (.aload_n 0, 1) := by decide +kernel
theorem dX0_init_5 : decode cX0_init 5 = .ok (.bipush 9, 2) := by decide +kernel
theorem dX0_init_7 : decode cX0_init 7 = .ok (.newarray .int, 2) := by decide +kernel
theorem dX0_init_9 : decode cX0_init 9 = .ok (.putfield 9, 3) := by decide +kernel
theorem dX0_init_12 : decode cX0_init 12 = .ok (.aload_n 0, 1) := by decide +kernel
theorem dX0_init_13 : decode cX0_init 13 = .ok (.bipush 9, 2) := by decide +kernel
theorem dX0_init_15 : decode cX0_init 15 = .ok (.newarray .int, 2) := by decide +kernel
theorem dX0_init_17 : decode cX0_init 17 = .ok (.putfield 15, 3) := by decide +kernel
theorem dX0_init_20 : decode cX0_init 20 = .ok (.aload_n 0, 1) := by decide +kernel
theorem dX0_init_21 : decode cX0_init 21 = .ok (.bipush 9, 2) := by decide +kernel
theorem dX0_init_23 : decode cX0_init 23 = .ok (.newarray .int, 2) := by decide +kernel
theorem dX0_init_25 : decode cX0_init 25 = .ok (.putfield 18, 3) := by decide +kernel
theorem dX0_init_28 : decode cX0_init 28 = .ok (.aload_n 0, 1) := by decide +kernel
theorem dX0_init_29 : decode cX0_init 29 = .ok (.iconst 0, 1) := by decide +kernel
theorem dX0_init_30 : decode cX0_init 30 = .ok (.putfield 21, 3) := by decide +kernel
theorem dX0_init_33 : decode cX0_init 33 = .ok (.aload_n 0, 1) := by decide +kernel
theorem dX0_init_34 : decode cX0_init 34 = .ok (.iconst 0, 1) := by decide +kernel
theorem dX0_init_35 : decode cX0_init 35 = .ok (.putfield 25, 3) := by decide +kernel
theorem dX0_init_38 : decode cX0_init 38 = .ok (.return_, 1) := by decide +kernel
theorem dX0_read_0 : decode cX0_read 0 = .ok (.aload_n 0, 1) := by decide +kernel
theorem dX0_read_1 : decode cX0_read 1 = .ok (.iconst 0, 1) := by decide +kernel
theorem dX0_read_2 : decode cX0_read 2 = .ok (.putfield 21, 3) := by decide +kernel
theorem dX0_read_5 : decode cX0_read 5 = .ok (.iconst 0, 1) := by decide +kernel
theorem dX0_read_6 : decode cX0_read 6 = .ok (.istore_n 2, 1) := by decide +kernel
theorem dX0_read_7 : decode cX0_read 7 = .ok (.iload_n 2, 1) := by decide +kernel
theorem dX0_read_8 : decode cX0_read 8 = .ok (.aload_n 1, 1) := by decide +kernel
theorem dX0_read_9 : decode cX0_read 9 = .ok (.getfield 28, 3) := by decide +kernel
theorem dX0_read_12 : decode cX0_read 12 = .ok (.if_icmp .ge 113, 3) := by decide +kernel
theorem dX0_read_15 : decode cX0_read 15 = .ok (.aload_n 1, 1) := by decide +kernel
theorem dX0_read_16 : decode cX0_read 16 = .ok (.getfield 31, 3) := by decide +kernel
theorem dX0_read_19 : decode cX0_read 19 = .ok (.iload_n 2, 1) := by decide +kernel
theorem dX0_read_20 : decode cX0_read 20 = .ok (.iaload, 1) := by decide +kernel
theorem dX0_read_21 : decode cX0_read 21 = .ok (.bipush 32, 2) := by decide +kernel
theorem dX0_read_23 : decode cX0_read 23 = .ok (.if_icmp .ne 9, 3) := by decide +kernel
theorem dX0_read_26 : decode cX0_read 26 = .ok (.iinc 2 1, 3) := by decide +kernel
theorem dX0_read_29 : decode cX0_read 29 = .ok (.goto (-22), 3) := by decide +kernel
theorem dX0_read_32 : decode cX0_read 32 = .ok (.aload_n 0, 1) := by decide +kernel
theorem dX0_read_33 : decode cX0_read 33 = .ok (.getfield 21, 3) := by decide +kernel
theorem dX0_read_36 : decode cX0_read 36 = .ok (.bipush 9, 2) := by decide +kernel
theorem dX0_read_38 : decode cX0_read 38 = .ok (.if_icmp .ge 81, 3) := by decide +kernel
theorem dX0_read_41 : decode cX0_read 41 = .ok (.iload_n 2, 1) := by decide +kernel
theorem dX0_read_42 : decode cX0_read 42 = .ok (.iconst 2, 1) := by decide +kernel
theorem dX0_read_43 : decode cX0_read 43 = .ok (.iadd, 1) := by decide +kernel
theorem dX0_read_44 : decode cX0_read 44 = .ok (.aload_n 1, 1) := by decide +kernel
theorem dX0_read_45 : decode cX0_read 45 = .ok (.getfield 28, 3) := by decide +kernel
theorem dX0_read_48 : decode cX0_read 48 = .ok (.if_icmp .ge 71, 3) := by decide +kernel
theorem dX0_read_51 : decode cX0_read 51 = .ok (.aload_n 0, 1) := by decide +kernel
theorem dX0_read_52 : decode cX0_read 52 = .ok (.getfield 9, 3) := by decide +kernel
theorem dX0_read_55 : decode cX0_read 55 = .ok (.aload_n 0, 1) := by decide +kernel
theorem dX0_read_56 : decode cX0_read 56 = .ok (.getfield 21, 3) := by decide +kernel
theorem dX0_read_59 : decode cX0_read 59 = .ok (.aload_n 1, 1) := by decide +kernel
theorem dX0_read_60 : decode cX0_read 60 = .ok (.getfield 31, 3) := by decide +kernel
theorem dX0_read_63 : decode cX0_read 63 = .ok (.iload_n 2, 1) := by decide +kernel
theorem dX0_read_64 : decode cX0_read 64 = .ok (.iaload, 1) := by decide +kernel
theorem dX0_read_65 : decode cX0_read 65 = .ok (.invokestatic 34, 3) := by decide +kernel
theorem dX0_read_68 : decode cX0_read 68 = .ok (.iastore, 1) := by decide +kernel
theorem dX0_read_69 : decode cX0_read 69 = .ok (.aload_n 0, 1) := by decide +kernel
theorem dX0_read_70 : decode cX0_read 70 = .ok (.getfield 15, 3) := by decide +kernel
theorem dX0_read_73 : decode cX0_read 73 = .ok (.aload_n 0, 1) := by decide +kernel
theorem dX0_read_74 : decode cX0_read 74 = .ok (.getfield 21, 3) := by decide +kernel
theorem dX0_read_77 : decode cX0_read 77 = .ok (.aload_n 1, 1) := by decide +kernel
theorem dX0_read_78 : decode cX0_read 78 = .ok (.getfield 31, 3) := by decide +kernel
theorem dX0_read_81 : decode cX0_read 81 = .ok (.iload_n 2, 1) := by decide +kernel
theorem dX0_read_82 : decode cX0_read 82 = .ok (.iconst 1, 1) := by decide +kernel
theorem dX0_read_83 : decode cX0_read 83 = .ok (.iadd, 1) := by decide +kernel
theorem dX0_read_84 : decode cX0_read 84 = .ok (.iaload, 1) := by decide +kernel
theorem dX0_read_85 : decode cX0_read 85 = .ok (.bipush 48, 2) := by decide +kernel
theorem dX0_read_87 : decode cX0_read 87 = .ok (.isub, 1) := by decide +kernel
theorem dX0_read_88 : decode cX0_read 88 = .ok (.iastore, 1) := by decide +kernel
theorem dX0_read_89 : decode cX0_read 89 = .ok (.aload_n 0, 1) := by decide +kernel
theorem dX0_read_90 : decode cX0_read 90 = .ok (.getfield 18, 3) := by decide +kernel
theorem dX0_read_93 : decode cX0_read 93 = .ok (.aload_n 0, 1) := by decide +kernel
theorem dX0_read_94 : decode cX0_read 94 = .ok (.getfield 21, 3) := by decide +kernel
theorem dX0_read_97 : decode cX0_read 97 = .ok (.aload_n 1, 1) := by decide +kernel
theorem dX0_read_98 : decode cX0_read 98 = .ok (.getfield 31, 3) := by decide +kernel
theorem dX0_read_101 : decode cX0_read 101 = .ok (.iload_n 2, 1) := by decide +kernel
theorem dX0_read_102 : decode cX0_read 102 = .ok (.iconst 2, 1) := by decide +kernel
theorem dX0_read_103 : decode cX0_read 103 = .ok (.iadd, 1) := by decide +kernel
theorem dX0_read_104 : decode cX0_read 104 = .ok (.iaload, 1) := by decide +kernel
theorem dX0_read_105 : decode cX0_read 105 = .ok (.bipush 48, 2) := by decide +kernel
theorem dX0_read_107 : decode cX0_read 107 = .ok (.isub, 1) := by decide +kernel
theorem dX0_read_108 : decode cX0_read 108 = .ok (.iastore, 1) := by decide +kernel
theorem dX0_read_109 : decode cX0_read 109 = .ok (.aload_n 0, 1) := by decide +kernel
theorem dX0_read_110 : decode cX0_read 110 = .ok (.dup, 1) := by decide +kernel
theorem dX0_read_111 : decode cX0_read 111 = .ok (.getfield 21, 3) := by decide +kernel
theorem dX0_read_114 : decode cX0_read 114 = .ok (.iconst 1, 1) := by decide +kernel
theorem dX0_read_115 : decode cX0_read 115 = .ok (.iadd, 1) := by decide +kernel
theorem dX0_read_116 : decode cX0_read 116 = .ok (.putfield 21, 3) := by decide +kernel
theorem dX0_read_119 : decode cX0_read 119 = .ok (.iinc 2 3, 3) := by decide +kernel
theorem dX0_read_122 : decode cX0_read 122 = .ok (.goto (-115), 3) := by decide +kernel
theorem dX0_read_125 : decode cX0_read 125 = .ok (.return_, 1) := by decide +kernel
theorem dX0_copyOf_0 : decode cX0_copyOf 0 = .ok (.iconst 0, 1) := by decide +kernel
theorem dX0_copyOf_1 : decode cX0_copyOf 1 = .ok (.istore_n 2, 1) := by decide +kernel
theorem dX0_copyOf_2 : decode cX0_copyOf 2 = .ok (.iload_n 2, 1) := by decide +kernel
theorem dX0_copyOf_3 : decode cX0_copyOf 3 = .ok (.bipush 9, 2) := by decide +kernel
theorem dX0_copyOf_5 : decode cX0_copyOf 5 = .ok (.if_icmp .ge 45, 3) := by decide +kernel
theorem dX0_copyOf_8 : decode cX0_copyOf 8 = .ok (.aload_n 0, 1) := by decide +kernel
theorem dX0_copyOf_9 : decode cX0_copyOf 9 = .ok (.getfield 9, 3) := by decide +kernel
theorem dX0_copyOf_12 : decode cX0_copyOf 12 = .ok (.iload_n 2, 1) := by decide +kernel
theorem dX0_copyOf_13 : decode cX0_copyOf 13 = .ok (.aload_n 1, 1) := by decide +kernel
theorem dX0_copyOf_14 : decode cX0_copyOf 14 = .ok (.getfield 9, 3) := by decide +kernel
theorem dX0_copyOf_17 : decode cX0_copyOf 17 = .ok (.iload_n 2, 1) := by decide +kernel
theorem dX0_copyOf_18 : decode cX0_copyOf 18 = .ok (.iaload, 1) := by decide +kernel
theorem dX0_copyOf_19 : decode cX0_copyOf 19 = .ok (.iastore, 1) := by decide +kernel
theorem dX0_copyOf_20 : decode cX0_copyOf 20 = .ok (.aload_n 0, 1) := by decide +kernel
theorem dX0_copyOf_21 : decode cX0_copyOf 21 = .ok (.getfield 15, 3) := by decide +kernel
theorem dX0_copyOf_24 : decode cX0_copyOf 24 = .ok (.iload_n 2, 1) := by decide +kernel
theorem dX0_copyOf_25 : decode cX0_copyOf 25 = .ok (.aload_n 1, 1) := by decide +kernel
theorem dX0_copyOf_26 : decode cX0_copyOf 26 = .ok (.getfield 15, 3) := by decide +kernel
theorem dX0_copyOf_29 : decode cX0_copyOf 29 = .ok (.iload_n 2, 1) := by decide +kernel
theorem dX0_copyOf_30 : decode cX0_copyOf 30 = .ok (.iaload, 1) := by decide +kernel
theorem dX0_copyOf_31 : decode cX0_copyOf 31 = .ok (.iastore, 1) := by decide +kernel
theorem dX0_copyOf_32 : decode cX0_copyOf 32 = .ok (.aload_n 0, 1) := by decide +kernel
theorem dX0_copyOf_33 : decode cX0_copyOf 33 = .ok (.getfield 18, 3) := by decide +kernel
theorem dX0_copyOf_36 : decode cX0_copyOf 36 = .ok (.iload_n 2, 1) := by decide +kernel
theorem dX0_copyOf_37 : decode cX0_copyOf 37 = .ok (.aload_n 1, 1) := by decide +kernel
theorem dX0_copyOf_38 : decode cX0_copyOf 38 = .ok (.getfield 18, 3) := by decide +kernel
theorem dX0_copyOf_41 : decode cX0_copyOf 41 = .ok (.iload_n 2, 1) := by decide +kernel
theorem dX0_copyOf_42 : decode cX0_copyOf 42 = .ok (.iaload, 1) := by decide +kernel
theorem dX0_copyOf_43 : decode cX0_copyOf 43 = .ok (.iastore, 1) := by decide +kernel
theorem dX0_copyOf_44 : decode cX0_copyOf 44 = .ok (.iinc 2 1, 3) := by decide +kernel
theorem dX0_copyOf_47 : decode cX0_copyOf 47 = .ok (.goto (-45), 3) := by decide +kernel
theorem dX0_copyOf_50 : decode cX0_copyOf 50 = .ok (.aload_n 0, 1) := by decide +kernel
theorem dX0_copyOf_51 : decode cX0_copyOf 51 = .ok (.aload_n 1, 1) := by decide +kernel
theorem dX0_copyOf_52 : decode cX0_copyOf 52 = .ok (.getfield 21, 3) := by decide +kernel
theorem dX0_copyOf_55 : decode cX0_copyOf 55 = .ok (.putfield 21, 3) := by decide +kernel
theorem dX0_copyOf_58 : decode cX0_copyOf 58 = .ok (.aload_n 0, 1) := by decide +kernel
theorem dX0_copyOf_59 : decode cX0_copyOf 59 = .ok (.aload_n 1, 1) := by decide +kernel
theorem dX0_copyOf_60 : decode cX0_copyOf 60 = .ok (.getfield 25, 3) := by decide +kernel
theorem dX0_copyOf_63 : decode cX0_copyOf 63 = .ok (.putfield 25, 3) := by decide +kernel
theorem dX0_copyOf_66 : decode cX0_copyOf 66 = .ok (.return_, 1) := by decide +kernel
theorem dX0_wasFished_0 : decode cX0_wasFished 0 = .ok (.aload_n 0, 1) := by decide +kernel
theorem dX0_wasFished_1 : decode cX0_wasFished 1 = .ok (.getfield 25, 3) := by decide +kernel
theorem dX0_wasFished_4 : decode cX0_wasFished 4 = .ok (.iload_n 1, 1) := by decide +kernel
theorem dX0_wasFished_5 : decode cX0_wasFished 5 = .ok (.ishr, 1) := by decide +kernel
theorem dX0_wasFished_6 : decode cX0_wasFished 6 = .ok (.iconst 1, 1) := by decide +kernel
theorem dX0_wasFished_7 : decode cX0_wasFished 7 = .ok (.iand, 1) := by decide +kernel
theorem dX0_wasFished_8 : decode cX0_wasFished 8 = .ok (.iconst 1, 1) := by decide +kernel
theorem dX0_wasFished_9 : decode cX0_wasFished 9 = .ok (.if_icmp .ne 7, 3) := by decide +kernel
theorem dX0_wasFished_12 : decode cX0_wasFished 12 = .ok (.iconst 1, 1) := by decide +kernel
theorem dX0_wasFished_13 : decode cX0_wasFished 13 = .ok (.goto 4, 3) := by decide +kernel
theorem dX0_wasFished_16 : decode cX0_wasFished 16 = .ok (.iconst 0, 1) := by decide +kernel
theorem dX0_wasFished_17 : decode cX0_wasFished 17 = .ok (.ireturn, 1) := by decide +kernel
theorem dX0_setFished_0 : decode cX0_setFished 0 = .ok (.aload_n 0, 1) := by decide +kernel
theorem dX0_setFished_1 : decode cX0_setFished 1 = .ok (.dup, 1) := by decide +kernel
theorem dX0_setFished_2 : decode cX0_setFished 2 = .ok (.getfield 25, 3) := by decide +kernel
theorem dX0_setFished_5 : decode cX0_setFished 5 = .ok (.iconst 1, 1) := by decide +kernel
theorem dX0_setFished_6 : decode cX0_setFished 6 = .ok (.iload_n 1, 1) := by decide +kernel
theorem dX0_setFished_7 : decode cX0_setFished 7 = .ok (.ishl, 1) := by decide +kernel
theorem dX0_setFished_8 : decode cX0_setFished 8 = .ok (.ior, 1) := by decide +kernel
theorem dX0_setFished_9 : decode cX0_setFished 9 = .ok (.putfield 25, 3) := by decide +kernel
theorem dX0_setFished_12 : decode cX0_setFished 12 = .ok (.return_, 1) := by decide +kernel
theorem dX0_drift_0 : decode cX0_drift 0 = .ok (.aload_n 0, 1) := by decide +kernel
theorem dX0_drift_1 : decode cX0_drift 1 = .ok (.getfield 25, 3) := by decide +kernel
theorem dX0_drift_4 : decode cX0_drift 4 = .ok (.iload_n 1, 1) := by decide +kernel
theorem dX0_drift_5 : decode cX0_drift 5 = .ok (.ishr, 1) := by decide +kernel
theorem dX0_drift_6 : decode cX0_drift 6 = .ok (.iconst 1, 1) := by decide +kernel
theorem dX0_drift_7 : decode cX0_drift 7 = .ok (.iand, 1) := by decide +kernel
theorem dX0_drift_8 : decode cX0_drift 8 = .ok (.iconst 1, 1) := by decide +kernel
theorem dX0_drift_9 : decode cX0_drift 9 = .ok (.if_icmp .ne 7, 3) := by decide +kernel
theorem dX0_drift_12 : decode cX0_drift 12 = .ok (.iconst 0, 1) := by decide +kernel
theorem dX0_drift_13 : decode cX0_drift 13 = .ok (.goto 9, 3) := by decide +kernel
theorem dX0_drift_16 : decode cX0_drift 16 = .ok (.aload_n 0, 1) := by decide +kernel
theorem dX0_drift_17 : decode cX0_drift 17 = .ok (.getfield 18, 3) := by decide +kernel
theorem dX0_drift_20 : decode cX0_drift 20 = .ok (.iload_n 1, 1) := by decide +kernel
theorem dX0_drift_21 : decode cX0_drift 21 = .ok (.iaload, 1) := by decide +kernel
theorem dX0_drift_22 : decode cX0_drift 22 = .ok (.ireturn, 1) := by decide +kernel
theorem dX0_flour_0 : decode cX0_flour 0 = .ok (.aload_n 0, 1) := by decide +kernel
theorem dX0_flour_1 : decode cX0_flour 1 = .ok (.getfield 15, 3) := by decide +kernel
theorem dX0_flour_4 : decode cX0_flour 4 = .ok (.iload_n 1, 1) := by decide +kernel
theorem dX0_flour_5 : decode cX0_flour 5 = .ok (.iaload, 1) := by decide +kernel
theorem dX0_flour_6 : decode cX0_flour 6 = .ok (.istore 4, 2) := by decide +kernel
theorem dX0_flour_8 : decode cX0_flour 8 = .ok (.aload_n 0, 1) := by decide +kernel
theorem dX0_flour_9 : decode cX0_flour 9 = .ok (.getfield 9, 3) := by decide +kernel
theorem dX0_flour_12 : decode cX0_flour 12 = .ok (.iload_n 1, 1) := by decide +kernel
theorem dX0_flour_13 : decode cX0_flour 13 = .ok (.iaload, 1) := by decide +kernel
theorem dX0_flour_14 : decode cX0_flour 14 = .ok (.tableswitch 103 1 5 #[34, 47, 103, 62, 86], 34) := by decide +kernel
theorem dX0_flour_48 : decode cX0_flour 48 = .ok (.iconst 0, 1) := by decide +kernel
theorem dX0_flour_49 : decode cX0_flour 49 = .ok (.iconst 2, 1) := by decide +kernel
theorem dX0_flour_50 : decode cX0_flour 50 = .ok (.iload 4, 2) := by decide +kernel
theorem dX0_flour_52 : decode cX0_flour 52 = .ok (.imul, 1) := by decide +kernel
theorem dX0_flour_53 : decode cX0_flour 53 = .ok (.iload_n 2, 1) := by decide +kernel
theorem dX0_flour_54 : decode cX0_flour 54 = .ok (.imul, 1) := by decide +kernel
theorem dX0_flour_55 : decode cX0_flour 55 = .ok (.iload_n 3, 1) := by decide +kernel
theorem dX0_flour_56 : decode cX0_flour 56 = .ok (.isub, 1) := by decide +kernel
theorem dX0_flour_57 : decode cX0_flour 57 = .ok (.invokestatic 38, 3) := by decide +kernel
theorem dX0_flour_60 : decode cX0_flour 60 = .ok (.ireturn, 1) := by decide +kernel
theorem dX0_flour_61 : decode cX0_flour 61 = .ok (.iconst 0, 1) := by decide +kernel
theorem dX0_flour_62 : decode cX0_flour 62 = .ok (.iload 4, 2) := by decide +kernel
theorem dX0_flour_64 : decode cX0_flour 64 = .ok (.iload_n 2, 1) := by decide +kernel
theorem dX0_flour_65 : decode cX0_flour 65 = .ok (.iconst 1, 1) := by decide +kernel
theorem dX0_flour_66 : decode cX0_flour 66 = .ok (.invokestatic 44, 3) := by decide +kernel
theorem dX0_flour_69 : decode cX0_flour 69 = .ok (.imul, 1) := by decide +kernel
theorem dX0_flour_70 : decode cX0_flour 70 = .ok (.iload_n 3, 1) := by decide +kernel
theorem dX0_flour_71 : decode cX0_flour 71 = .ok (.isub, 1) := by decide +kernel
theorem dX0_flour_72 : decode cX0_flour 72 = .ok (.invokestatic 38, 3) := by decide +kernel
theorem dX0_flour_75 : decode cX0_flour 75 = .ok (.ireturn, 1) := by decide +kernel
theorem dX0_flour_76 : decode cX0_flour 76 = .ok (.iconst 0, 1) := by decide +kernel
theorem dX0_flour_77 : decode cX0_flour 77 = .ok (.iconst 2, 1) := by decide +kernel
theorem dX0_flour_78 : decode cX0_flour 78 = .ok (.iload 4, 2) := by decide +kernel
theorem dX0_flour_80 : decode cX0_flour 80 = .ok (.imul, 1) := by decide +kernel
theorem dX0_flour_81 : decode cX0_flour 81 = .ok (.iload_n 2, 1) := by decide +kernel
theorem dX0_flour_82 : decode cX0_flour 82 = .ok (.imul, 1) := by decide +kernel
theorem dX0_flour_83 : decode cX0_flour 83 = .ok (.iload_n 3, 1) := by decide +kernel
theorem dX0_flour_84 : decode cX0_flour 84 = .ok (.isub, 1) := by decide +kernel
theorem dX0_flour_85 : decode cX0_flour 85 = .ok (.invokestatic 38, 3) := by decide +kernel
theorem dX0_flour_88 : decode cX0_flour 88 = .ok (.iload_n 2, 1) := by decide +kernel
theorem dX0_flour_89 : decode cX0_flour 89 = .ok (.iconst 4, 1) := by decide +kernel
theorem dX0_flour_90 : decode cX0_flour 90 = .ok (.if_icmp .ne 7, 3) := by decide +kernel
theorem dX0_flour_93 : decode cX0_flour 93 = .ok (.iconst 5, 1) := by decide +kernel
theorem dX0_flour_94 : decode cX0_flour 94 = .ok (.goto 4, 3) := by decide +kernel
theorem dX0_flour_97 : decode cX0_flour 97 = .ok (.iconst 0, 1) := by decide +kernel
theorem dX0_flour_98 : decode cX0_flour 98 = .ok (.iadd, 1) := by decide +kernel
theorem dX0_flour_99 : decode cX0_flour 99 = .ok (.ireturn, 1) := by decide +kernel
theorem dX0_flour_100 : decode cX0_flour 100 = .ok (.iconst 0, 1) := by decide +kernel
theorem dX0_flour_101 : decode cX0_flour 101 = .ok (.iload 4, 2) := by decide +kernel
theorem dX0_flour_103 : decode cX0_flour 103 = .ok (.iload_n 2, 1) := by decide +kernel
theorem dX0_flour_104 : decode cX0_flour 104 = .ok (.imul, 1) := by decide +kernel
theorem dX0_flour_105 : decode cX0_flour 105 = .ok (.iload_n 3, 1) := by decide +kernel
theorem dX0_flour_106 : decode cX0_flour 106 = .ok (.isub, 1) := by decide +kernel
theorem dX0_flour_107 : decode cX0_flour 107 = .ok (.aload_n 0, 1) := by decide +kernel
theorem dX0_flour_108 : decode cX0_flour 108 = .ok (.iload_n 1, 1) := by decide +kernel
theorem dX0_flour_109 : decode cX0_flour 109 = .ok (.invokevirtual 47, 3) := by decide +kernel
theorem dX0_flour_112 : decode cX0_flour 112 = .ok (.isub, 1) := by decide +kernel
theorem dX0_flour_113 : decode cX0_flour 113 = .ok (.invokestatic 38, 3) := by decide +kernel
theorem dX0_flour_116 : decode cX0_flour 116 = .ok (.ireturn, 1) := by decide +kernel
theorem dX0_flour_117 : decode cX0_flour 117 = .ok (.iconst 0, 1) := by decide +kernel
theorem dX0_flour_118 : decode cX0_flour 118 = .ok (.iload 4, 2) := by decide +kernel
theorem dX0_flour_120 : decode cX0_flour 120 = .ok (.iload_n 2, 1) := by decide +kernel
theorem dX0_flour_121 : decode cX0_flour 121 = .ok (.imul, 1) := by decide +kernel
theorem dX0_flour_122 : decode cX0_flour 122 = .ok (.iload_n 3, 1) := by decide +kernel
theorem dX0_flour_123 : decode cX0_flour 123 = .ok (.isub, 1) := by decide +kernel
theorem dX0_flour_124 : decode cX0_flour 124 = .ok (.invokestatic 38, 3) := by decide +kernel
theorem dX0_flour_127 : decode cX0_flour 127 = .ok (.ireturn, 1) := by decide +kernel
theorem dX0_litter_0 : decode cX0_litter 0 = .ok (.aload_n 0, 1) := by decide +kernel
theorem dX0_litter_1 : decode cX0_litter 1 = .ok (.iload_n 1, 1) := by decide +kernel
theorem dX0_litter_2 : decode cX0_litter 2 = .ok (.invokevirtual 47, 3) := by decide +kernel
theorem dX0_litter_5 : decode cX0_litter 5 = .ok (.istore_n 2, 1) := by decide +kernel
theorem dX0_litter_6 : decode cX0_litter 6 = .ok (.aload_n 0, 1) := by decide +kernel
theorem dX0_litter_7 : decode cX0_litter 7 = .ok (.getfield 9, 3) := by decide +kernel
theorem dX0_litter_10 : decode cX0_litter 10 = .ok (.iload_n 1, 1) := by decide +kernel
theorem dX0_litter_11 : decode cX0_litter 11 = .ok (.iaload, 1) := by decide +kernel
theorem dX0_litter_12 : decode cX0_litter 12 = .ok (.tableswitch 50 1 5 #[36, 50, 40, 36, 44], 36) := by decide +kernel
theorem dX0_litter_48 : decode cX0_litter 48 = .ok (.iload_n 2, 1) := by decide +kernel
theorem dX0_litter_49 : decode cX0_litter 49 = .ok (.iconst 2, 1) := by decide +kernel
theorem dX0_litter_50 : decode cX0_litter 50 = .ok (.idiv, 1) := by decide +kernel
theorem dX0_litter_51 : decode cX0_litter 51 = .ok (.ireturn, 1) := by decide +kernel
theorem dX0_litter_52 : decode cX0_litter 52 = .ok (.iload_n 2, 1) := by decide +kernel
theorem dX0_litter_53 : decode cX0_litter 53 = .ok (.iconst 3, 1) := by decide +kernel
theorem dX0_litter_54 : decode cX0_litter 54 = .ok (.iadd, 1) := by decide +kernel
theorem dX0_litter_55 : decode cX0_litter 55 = .ok (.ireturn, 1) := by decide +kernel
theorem dX0_litter_56 : decode cX0_litter 56 = .ok (.iconst 2, 1) := by decide +kernel
theorem dX0_litter_57 : decode cX0_litter 57 = .ok (.iload_n 2, 1) := by decide +kernel
theorem dX0_litter_58 : decode cX0_litter 58 = .ok (.iconst 3, 1) := by decide +kernel
theorem dX0_litter_59 : decode cX0_litter 59 = .ok (.iadd, 1) := by decide +kernel
theorem dX0_litter_60 : decode cX0_litter 60 = .ok (.imul, 1) := by decide +kernel
theorem dX0_litter_61 : decode cX0_litter 61 = .ok (.ireturn, 1) := by decide +kernel
theorem dX0_litter_62 : decode cX0_litter 62 = .ok (.iload_n 2, 1) := by decide +kernel
theorem dX0_litter_63 : decode cX0_litter 63 = .ok (.ireturn, 1) := by decide +kernel
theorem dX0_howManyOf_0 : decode cX0_howManyOf 0 = .ok (.iconst 0, 1) := by decide +kernel
theorem dX0_howManyOf_1 : decode cX0_howManyOf 1 = .ok (.istore_n 2, 1) := by decide +kernel
theorem dX0_howManyOf_2 : decode cX0_howManyOf 2 = .ok (.iconst 0, 1) := by decide +kernel
theorem dX0_howManyOf_3 : decode cX0_howManyOf 3 = .ok (.istore_n 3, 1) := by decide +kernel
theorem dX0_howManyOf_4 : decode cX0_howManyOf 4 = .ok (.iload_n 3, 1) := by decide +kernel
theorem dX0_howManyOf_5 : decode cX0_howManyOf 5 = .ok (.aload_n 0, 1) := by decide +kernel
theorem dX0_howManyOf_6 : decode cX0_howManyOf 6 = .ok (.getfield 21, 3) := by decide +kernel
theorem dX0_howManyOf_9 : decode cX0_howManyOf 9 = .ok (.if_icmp .ge 25, 3) := by decide +kernel
theorem dX0_howManyOf_12 : decode cX0_howManyOf 12 = .ok (.aload_n 0, 1) := by decide +kernel
theorem dX0_howManyOf_13 : decode cX0_howManyOf 13 = .ok (.getfield 9, 3) := by decide +kernel
theorem dX0_howManyOf_16 : decode cX0_howManyOf 16 = .ok (.iload_n 3, 1) := by decide +kernel
theorem dX0_howManyOf_17 : decode cX0_howManyOf 17 = .ok (.iaload, 1) := by decide +kernel
theorem dX0_howManyOf_18 : decode cX0_howManyOf 18 = .ok (.iload_n 1, 1) := by decide +kernel
theorem dX0_howManyOf_19 : decode cX0_howManyOf 19 = .ok (.invokestatic 50, 3) := by decide +kernel
theorem dX0_howManyOf_22 : decode cX0_howManyOf 22 = .ok (.ifCond .eq 6, 3) := by decide +kernel
theorem dX0_howManyOf_25 : decode cX0_howManyOf 25 = .ok (.iinc 2 1, 3) := by decide +kernel
theorem dX0_howManyOf_28 : decode cX0_howManyOf 28 = .ok (.iinc 3 1, 3) := by decide +kernel
theorem dX0_howManyOf_31 : decode cX0_howManyOf 31 = .ok (.goto (-27), 3) := by decide +kernel
theorem dX0_howManyOf_34 : decode cX0_howManyOf 34 = .ok (.iload_n 2, 1) := by decide +kernel
theorem dX0_howManyOf_35 : decode cX0_howManyOf 35 = .ok (.ireturn, 1) := by decide +kernel
theorem dX1_init_0 : decode cX1_init 0 = .ok (.aload_n 0, 1) := by decide +kernel
theorem dX1_init_1 : decode cX1_init 1 = .ok (.invokespecial 3, 3) := by decide +kernel
theorem dX1_init_4 : decode cX1_init 4 = .ok (.aload_n 0, 1) := by decide +kernel
theorem dX1_init_5 : decode cX1_init 5 = .ok (.bipush 40, 2) := by decide +kernel
theorem dX1_init_7 : decode cX1_init 7 = .ok (.newarray .int, 2) := by decide +kernel
theorem dX1_init_9 : decode cX1_init 9 = .ok (.putfield 9, 3) := by decide +kernel
theorem dX1_init_12 : decode cX1_init 12 = .ok (.aload_n 0, 1) := by decide +kernel
theorem dX1_init_13 : decode cX1_init 13 = .ok (.bipush 40, 2) := by decide +kernel
theorem dX1_init_15 : decode cX1_init 15 = .ok (.newarray .int, 2) := by decide +kernel
theorem dX1_init_17 : decode cX1_init 17 = .ok (.putfield 15, 3) := by decide +kernel
theorem dX1_init_20 : decode cX1_init 20 = .ok (.aload_n 0, 1) := by decide +kernel
theorem dX1_init_21 : decode cX1_init 21 = .ok (.iconst 0, 1) := by decide +kernel
theorem dX1_init_22 : decode cX1_init 22 = .ok (.putfield 18, 3) := by decide +kernel
theorem dX1_init_25 : decode cX1_init 25 = .ok (.return_, 1) := by decide +kernel
theorem dX1_isFull_0 : decode cX1_isFull 0 = .ok (.aload_n 0, 1) := by decide +kernel
theorem dX1_isFull_1 : decode cX1_isFull 1 = .ok (.getfield 18, 3) := by decide +kernel
theorem dX1_isFull_4 : decode cX1_isFull 4 = .ok (.bipush 40, 2) := by decide +kernel
theorem dX1_isFull_6 : decode cX1_isFull 6 = .ok (.if_icmp .lt 7, 3) := by decide +kernel
theorem dX1_isFull_9 : decode cX1_isFull 9 = .ok (.iconst 1, 1) := by decide +kernel
theorem dX1_isFull_10 : decode cX1_isFull 10 = .ok (.goto 4, 3) := by decide +kernel
theorem dX1_isFull_13 : decode cX1_isFull 13 = .ok (.iconst 0, 1) := by decide +kernel
theorem dX1_isFull_14 : decode cX1_isFull 14 = .ok (.ireturn, 1) := by decide +kernel
theorem dX1_add_0 : decode cX1_add 0 = .ok (.aload_n 0, 1) := by decide +kernel
theorem dX1_add_1 : decode cX1_add 1 = .ok (.invokevirtual 22, 3) := by decide +kernel
theorem dX1_add_4 : decode cX1_add 4 = .ok (.ifCond .ne 33, 3) := by decide +kernel
theorem dX1_add_7 : decode cX1_add 7 = .ok (.aload_n 0, 1) := by decide +kernel
theorem dX1_add_8 : decode cX1_add 8 = .ok (.getfield 9, 3) := by decide +kernel
theorem dX1_add_11 : decode cX1_add 11 = .ok (.aload_n 0, 1) := by decide +kernel
theorem dX1_add_12 : decode cX1_add 12 = .ok (.getfield 18, 3) := by decide +kernel
theorem dX1_add_15 : decode cX1_add 15 = .ok (.iload_n 1, 1) := by decide +kernel
theorem dX1_add_16 : decode cX1_add 16 = .ok (.iastore, 1) := by decide +kernel
theorem dX1_add_17 : decode cX1_add 17 = .ok (.aload_n 0, 1) := by decide +kernel
theorem dX1_add_18 : decode cX1_add 18 = .ok (.getfield 15, 3) := by decide +kernel
theorem dX1_add_21 : decode cX1_add 21 = .ok (.aload_n 0, 1) := by decide +kernel
theorem dX1_add_22 : decode cX1_add 22 = .ok (.getfield 18, 3) := by decide +kernel
theorem dX1_add_25 : decode cX1_add 25 = .ok (.iload_n 2, 1) := by decide +kernel
theorem dX1_add_26 : decode cX1_add 26 = .ok (.iastore, 1) := by decide +kernel
theorem dX1_add_27 : decode cX1_add 27 = .ok (.aload_n 0, 1) := by decide +kernel
theorem dX1_add_28 : decode cX1_add 28 = .ok (.dup, 1) := by decide +kernel
theorem dX1_add_29 : decode cX1_add 29 = .ok (.getfield 18, 3) := by decide +kernel
theorem dX1_add_32 : decode cX1_add 32 = .ok (.iconst 1, 1) := by decide +kernel
theorem dX1_add_33 : decode cX1_add 33 = .ok (.iadd, 1) := by decide +kernel
theorem dX1_add_34 : decode cX1_add 34 = .ok (.putfield 18, 3) := by decide +kernel
theorem dX1_add_37 : decode cX1_add 37 = .ok (.return_, 1) := by decide +kernel
theorem dX1_copyOf_0 : decode cX1_copyOf 0 = .ok (.aload_n 0, 1) := by decide +kernel
theorem dX1_copyOf_1 : decode cX1_copyOf 1 = .ok (.aload_n 1, 1) := by decide +kernel
theorem dX1_copyOf_2 : decode cX1_copyOf 2 = .ok (.getfield 18, 3) := by decide +kernel
theorem dX1_copyOf_5 : decode cX1_copyOf 5 = .ok (.putfield 18, 3) := by decide +kernel
theorem dX1_copyOf_8 : decode cX1_copyOf 8 = .ok (.iconst 0, 1) := by decide +kernel
theorem dX1_copyOf_9 : decode cX1_copyOf 9 = .ok (.istore_n 2, 1) := by decide +kernel
theorem dX1_copyOf_10 : decode cX1_copyOf 10 = .ok (.iload_n 2, 1) := by decide +kernel
theorem dX1_copyOf_11 : decode cX1_copyOf 11 = .ok (.aload_n 0, 1) := by decide +kernel
theorem dX1_copyOf_12 : decode cX1_copyOf 12 = .ok (.getfield 18, 3) := by decide +kernel
theorem dX1_copyOf_15 : decode cX1_copyOf 15 = .ok (.if_icmp .ge 33, 3) := by decide +kernel
theorem dX1_copyOf_18 : decode cX1_copyOf 18 = .ok (.aload_n 0, 1) := by decide +kernel
theorem dX1_copyOf_19 : decode cX1_copyOf 19 = .ok (.getfield 9, 3) := by decide +kernel
theorem dX1_copyOf_22 : decode cX1_copyOf 22 = .ok (.iload_n 2, 1) := by decide +kernel
theorem dX1_copyOf_23 : decode cX1_copyOf 23 = .ok (.aload_n 1, 1) := by decide +kernel
theorem dX1_copyOf_24 : decode cX1_copyOf 24 = .ok (.getfield 9, 3) := by decide +kernel
theorem dX1_copyOf_27 : decode cX1_copyOf 27 = .ok (.iload_n 2, 1) := by decide +kernel
theorem dX1_copyOf_28 : decode cX1_copyOf 28 = .ok (.iaload, 1) := by decide +kernel
theorem dX1_copyOf_29 : decode cX1_copyOf 29 = .ok (.iastore, 1) := by decide +kernel
theorem dX1_copyOf_30 : decode cX1_copyOf 30 = .ok (.aload_n 0, 1) := by decide +kernel
theorem dX1_copyOf_31 : decode cX1_copyOf 31 = .ok (.getfield 15, 3) := by decide +kernel
theorem dX1_copyOf_34 : decode cX1_copyOf 34 = .ok (.iload_n 2, 1) := by decide +kernel
theorem dX1_copyOf_35 : decode cX1_copyOf 35 = .ok (.aload_n 1, 1) := by decide +kernel
theorem dX1_copyOf_36 : decode cX1_copyOf 36 = .ok (.getfield 15, 3) := by decide +kernel
theorem dX1_copyOf_39 : decode cX1_copyOf 39 = .ok (.iload_n 2, 1) := by decide +kernel
theorem dX1_copyOf_40 : decode cX1_copyOf 40 = .ok (.iaload, 1) := by decide +kernel
theorem dX1_copyOf_41 : decode cX1_copyOf 41 = .ok (.iastore, 1) := by decide +kernel
theorem dX1_copyOf_42 : decode cX1_copyOf 42 = .ok (.iinc 2 1, 3) := by decide +kernel
theorem dX1_copyOf_45 : decode cX1_copyOf 45 = .ok (.goto (-35), 3) := by decide +kernel
theorem dX1_copyOf_48 : decode cX1_copyOf 48 = .ok (.return_, 1) := by decide +kernel
theorem dX2_init_0 : decode cX2_init 0 = .ok (.aload_n 0, 1) := by decide +kernel
theorem dX2_init_1 : decode cX2_init 1 = .ok (.invokespecial 3, 3) := by decide +kernel
theorem dX2_init_4 : decode cX2_init 4 = .ok (.aload_n 0, 1) := by decide +kernel
theorem dX2_init_5 : decode cX2_init 5 = .ok (.bipush 60, 2) := by decide +kernel
theorem dX2_init_7 : decode cX2_init 7 = .ok (.newarray .int, 2) := by decide +kernel
theorem dX2_init_9 : decode cX2_init 9 = .ok (.putfield 9, 3) := by decide +kernel
theorem dX2_init_12 : decode cX2_init 12 = .ok (.aload_n 0, 1) := by decide +kernel
theorem dX2_init_13 : decode cX2_init 13 = .ok (.iconst (-1), 1) := by decide +kernel
theorem dX2_init_14 : decode cX2_init 14 = .ok (.putfield 15, 3) := by decide +kernel
theorem dX2_init_17 : decode cX2_init 17 = .ok (.return_, 1) := by decide +kernel
theorem dX2_isThere_0 : decode cX2_isThere 0 = .ok (.aload_n 0, 1) := by decide +kernel
theorem dX2_isThere_1 : decode cX2_isThere 1 = .ok (.getfield 15, 3) := by decide +kernel
theorem dX2_isThere_4 : decode cX2_isThere 4 = .ok (.ifCond .lt 7, 3) := by decide +kernel
theorem dX2_isThere_7 : decode cX2_isThere 7 = .ok (.iconst 1, 1) := by decide +kernel
theorem dX2_isThere_8 : decode cX2_isThere 8 = .ok (.goto 4, 3) := by decide +kernel
theorem dX2_isThere_11 : decode cX2_isThere 11 = .ok (.iconst 0, 1) := by decide +kernel
theorem dX2_isThere_12 : decode cX2_isThere 12 = .ok (.ireturn, 1) := by decide +kernel
theorem dX2_make_0 : decode cX2_make 0 = .ok (.aload_n 0, 1) := by decide +kernel
theorem dX2_make_1 : decode cX2_make 1 = .ok (.iload_n 1, 1) := by decide +kernel
theorem dX2_make_2 : decode cX2_make 2 = .ok (.putfield 15, 3) := by decide +kernel
theorem dX2_make_5 : decode cX2_make 5 = .ok (.iconst 0, 1) := by decide +kernel
theorem dX2_make_6 : decode cX2_make 6 = .ok (.istore_n 3, 1) := by decide +kernel
theorem dX2_make_7 : decode cX2_make 7 = .ok (.iload_n 3, 1) := by decide +kernel
theorem dX2_make_8 : decode cX2_make 8 = .ok (.iload_n 1, 1) := by decide +kernel
theorem dX2_make_9 : decode cX2_make 9 = .ok (.if_icmp .ge 22, 3) := by decide +kernel
theorem dX2_make_12 : decode cX2_make 12 = .ok (.iload_n 3, 1) := by decide +kernel
theorem dX2_make_13 : decode cX2_make 13 = .ok (.bipush 60, 2) := by decide +kernel
theorem dX2_make_15 : decode cX2_make 15 = .ok (.if_icmp .ge 16, 3) := by decide +kernel
theorem dX2_make_18 : decode cX2_make 18 = .ok (.aload_n 0, 1) := by decide +kernel
theorem dX2_make_19 : decode cX2_make 19 = .ok (.getfield 9, 3) := by decide +kernel
theorem dX2_make_22 : decode cX2_make 22 = .ok (.iload_n 3, 1) := by decide +kernel
theorem dX2_make_23 : decode cX2_make 23 = .ok (.iload_n 2, 1) := by decide +kernel
theorem dX2_make_24 : decode cX2_make 24 = .ok (.iastore, 1) := by decide +kernel
theorem dX2_make_25 : decode cX2_make 25 = .ok (.iinc 3 1, 3) := by decide +kernel
theorem dX2_make_28 : decode cX2_make 28 = .ok (.goto (-21), 3) := by decide +kernel
theorem dX2_make_31 : decode cX2_make 31 = .ok (.return_, 1) := by decide +kernel
theorem dX2_hasFrom_0 : decode cX2_hasFrom 0 = .ok (.iconst 0, 1) := by decide +kernel
theorem dX2_hasFrom_1 : decode cX2_hasFrom 1 = .ok (.iload_n 1, 1) := by decide +kernel
theorem dX2_hasFrom_2 : decode cX2_hasFrom 2 = .ok (.if_icmp .gt 17, 3) := by decide +kernel
theorem dX2_hasFrom_5 : decode cX2_hasFrom 5 = .ok (.iload_n 1, 1) := by decide +kernel
theorem dX2_hasFrom_6 : decode cX2_hasFrom 6 = .ok (.aload_n 0, 1) := by decide +kernel
theorem dX2_hasFrom_7 : decode cX2_hasFrom 7 = .ok (.getfield 15, 3) := by decide +kernel
theorem dX2_hasFrom_10 : decode cX2_hasFrom 10 = .ok (.iload_n 2, 1) := by decide +kernel
theorem dX2_hasFrom_11 : decode cX2_hasFrom 11 = .ok (.isub, 1) := by decide +kernel
theorem dX2_hasFrom_12 : decode cX2_hasFrom 12 = .ok (.if_icmp .gt 7, 3) := by decide +kernel
theorem dX2_hasFrom_15 : decode cX2_hasFrom 15 = .ok (.iconst 1, 1) := by decide +kernel
theorem dX2_hasFrom_16 : decode cX2_hasFrom 16 = .ok (.goto 4, 3) := by decide +kernel
theorem dX2_hasFrom_19 : decode cX2_hasFrom 19 = .ok (.iconst 0, 1) := by decide +kernel
theorem dX2_hasFrom_20 : decode cX2_hasFrom 20 = .ok (.ireturn, 1) := by decide +kernel
theorem dX2_sum_0 : decode cX2_sum 0 = .ok (.lconst 0, 1) := by decide +kernel
theorem dX2_sum_1 : decode cX2_sum 1 = .ok (.lstore_n 1, 1) := by decide +kernel
theorem dX2_sum_2 : decode cX2_sum 2 = .ok (.iconst 0, 1) := by decide +kernel
theorem dX2_sum_3 : decode cX2_sum 3 = .ok (.istore_n 3, 1) := by decide +kernel
theorem dX2_sum_4 : decode cX2_sum 4 = .ok (.iload_n 3, 1) := by decide +kernel
theorem dX2_sum_5 : decode cX2_sum 5 = .ok (.aload_n 0, 1) := by decide +kernel
theorem dX2_sum_6 : decode cX2_sum 6 = .ok (.getfield 15, 3) := by decide +kernel
theorem dX2_sum_9 : decode cX2_sum 9 = .ok (.if_icmp .ge 19, 3) := by decide +kernel
theorem dX2_sum_12 : decode cX2_sum 12 = .ok (.lload_n 1, 1) := by decide +kernel
theorem dX2_sum_13 : decode cX2_sum 13 = .ok (.aload_n 0, 1) := by decide +kernel
theorem dX2_sum_14 : decode cX2_sum 14 = .ok (.getfield 9, 3) := by decide +kernel
theorem dX2_sum_17 : decode cX2_sum 17 = .ok (.iload_n 3, 1) := by decide +kernel
theorem dX2_sum_18 : decode cX2_sum 18 = .ok (.iaload, 1) := by decide +kernel
theorem dX2_sum_19 : decode cX2_sum 19 = .ok (.i2l, 1) := by decide +kernel
theorem dX2_sum_20 : decode cX2_sum 20 = .ok (.ladd, 1) := by decide +kernel
theorem dX2_sum_21 : decode cX2_sum 21 = .ok (.lstore_n 1, 1) := by decide +kernel
theorem dX2_sum_22 : decode cX2_sum 22 = .ok (.iinc 3 1, 3) := by decide +kernel
theorem dX2_sum_25 : decode cX2_sum 25 = .ok (.goto (-21), 3) := by decide +kernel
theorem dX2_sum_28 : decode cX2_sum 28 = .ok (.lload_n 1, 1) := by decide +kernel
theorem dX2_sum_29 : decode cX2_sum 29 = .ok (.lreturn, 1) := by decide +kernel
theorem dX2_mixedInto_0 : decode cX2_mixedInto 0 = .ok (.ldc2_w 19, 3) := by decide +kernel
theorem dX2_mixedInto_3 : decode cX2_mixedInto 3 = .ok (.lload_n 1, 1) := by decide +kernel
theorem dX2_mixedInto_4 : decode cX2_mixedInto 4 = .ok (.lmul, 1) := by decide +kernel
theorem dX2_mixedInto_5 : decode cX2_mixedInto 5 = .ok (.aload_n 0, 1) := by decide +kernel
theorem dX2_mixedInto_6 : decode cX2_mixedInto 6 = .ok (.getfield 15, 3) := by decide +kernel
theorem dX2_mixedInto_9 : decode cX2_mixedInto 9 = .ok (.i2l, 1) := by decide +kernel
theorem dX2_mixedInto_10 : decode cX2_mixedInto 10 = .ok (.ladd, 1) := by decide +kernel
theorem dX2_mixedInto_11 : decode cX2_mixedInto 11 = .ok (.lstore_n 3, 1) := by decide +kernel
theorem dX2_mixedInto_12 : decode cX2_mixedInto 12 = .ok (.iconst 0, 1) := by decide +kernel
theorem dX2_mixedInto_13 : decode cX2_mixedInto 13 = .ok (.istore 5, 2) := by decide +kernel
theorem dX2_mixedInto_15 : decode cX2_mixedInto 15 = .ok (.iload 5, 2) := by decide +kernel
theorem dX2_mixedInto_17 : decode cX2_mixedInto 17 = .ok (.aload_n 0, 1) := by decide +kernel
theorem dX2_mixedInto_18 : decode cX2_mixedInto 18 = .ok (.getfield 15, 3) := by decide +kernel
theorem dX2_mixedInto_21 : decode cX2_mixedInto 21 = .ok (.if_icmp .ge 24, 3) := by decide +kernel
theorem dX2_mixedInto_24 : decode cX2_mixedInto 24 = .ok (.ldc2_w 19, 3) := by decide +kernel
theorem dX2_mixedInto_27 : decode cX2_mixedInto 27 = .ok (.lload_n 3, 1) := by decide +kernel
theorem dX2_mixedInto_28 : decode cX2_mixedInto 28 = .ok (.lmul, 1) := by decide +kernel
theorem dX2_mixedInto_29 : decode cX2_mixedInto 29 = .ok (.aload_n 0, 1) := by decide +kernel
theorem dX2_mixedInto_30 : decode cX2_mixedInto 30 = .ok (.getfield 9, 3) := by decide +kernel
theorem dX2_mixedInto_33 : decode cX2_mixedInto 33 = .ok (.iload 5, 2) := by decide +kernel
theorem dX2_mixedInto_35 : decode cX2_mixedInto 35 = .ok (.iaload, 1) := by decide +kernel
theorem dX2_mixedInto_36 : decode cX2_mixedInto 36 = .ok (.i2l, 1) := by decide +kernel
theorem dX2_mixedInto_37 : decode cX2_mixedInto 37 = .ok (.ladd, 1) := by decide +kernel
theorem dX2_mixedInto_38 : decode cX2_mixedInto 38 = .ok (.lstore_n 3, 1) := by decide +kernel
theorem dX2_mixedInto_39 : decode cX2_mixedInto 39 = .ok (.iinc 5 1, 3) := by decide +kernel
theorem dX2_mixedInto_42 : decode cX2_mixedInto 42 = .ok (.goto (-27), 3) := by decide +kernel
theorem dX2_mixedInto_45 : decode cX2_mixedInto 45 = .ok (.lload_n 3, 1) := by decide +kernel
theorem dX2_mixedInto_46 : decode cX2_mixedInto 46 = .ok (.lreturn, 1) := by decide +kernel
theorem dX3_init_0 : decode cX3_init 0 = .ok (.aload_n 0, 1) := by decide +kernel
theorem dX3_init_1 : decode cX3_init 1 = .ok (.invokespecial 3, 3) := by decide +kernel
theorem dX3_init_4 : decode cX3_init 4 = .ok (.aload_n 0, 1) := by decide +kernel
theorem dX3_init_5 : decode cX3_init 5 = .ok (.iconst 0, 1) := by decide +kernel
theorem dX3_init_6 : decode cX3_init 6 = .ok (.putfield 9, 3) := by decide +kernel
theorem dX3_init_9 : decode cX3_init 9 = .ok (.aload_n 0, 1) := by decide +kernel
theorem dX3_init_10 : decode cX3_init 10 = .ok (.iconst 0, 1) := by decide +kernel
theorem dX3_init_11 : decode cX3_init 11 = .ok (.putfield 15, 3) := by decide +kernel
theorem dX3_init_14 : decode cX3_init 14 = .ok (.aload_n 0, 1) := by decide +kernel
theorem dX3_init_15 : decode cX3_init 15 = .ok (.iconst 0, 1) := by decide +kernel
theorem dX3_init_16 : decode cX3_init 16 = .ok (.putfield 18, 3) := by decide +kernel
theorem dX3_init_19 : decode cX3_init 19 = .ok (.aload_n 0, 1) := by decide +kernel
theorem dX3_init_20 : decode cX3_init 20 = .ok (.iconst 0, 1) := by decide +kernel
theorem dX3_init_21 : decode cX3_init 21 = .ok (.putfield 21, 3) := by decide +kernel
theorem dX3_init_24 : decode cX3_init 24 = .ok (.aload_n 0, 1) := by decide +kernel
theorem dX3_init_25 : decode cX3_init 25 = .ok (.iconst 0, 1) := by decide +kernel
theorem dX3_init_26 : decode cX3_init 26 = .ok (.putfield 25, 3) := by decide +kernel
theorem dX3_init_29 : decode cX3_init 29 = .ok (.return_, 1) := by decide +kernel
theorem dX3_start_0 : decode cX3_start 0 = .ok (.aload_n 0, 1) := by decide +kernel
theorem dX3_start_1 : decode cX3_start 1 = .ok (.iconst 0, 1) := by decide +kernel
theorem dX3_start_2 : decode cX3_start 2 = .ok (.putfield 9, 3) := by decide +kernel
theorem dX3_start_5 : decode cX3_start 5 = .ok (.aload_n 0, 1) := by decide +kernel
theorem dX3_start_6 : decode cX3_start 6 = .ok (.iconst 2, 1) := by decide +kernel
theorem dX3_start_7 : decode cX3_start 7 = .ok (.putfield 15, 3) := by decide +kernel
theorem dX3_start_10 : decode cX3_start 10 = .ok (.aload_n 0, 1) := by decide +kernel
theorem dX3_start_11 : decode cX3_start 11 = .ok (.iconst 0, 1) := by decide +kernel
theorem dX3_start_12 : decode cX3_start 12 = .ok (.putfield 18, 3) := by decide +kernel
theorem dX3_start_15 : decode cX3_start 15 = .ok (.aload_n 0, 1) := by decide +kernel
theorem dX3_start_16 : decode cX3_start 16 = .ok (.iconst 0, 1) := by decide +kernel
theorem dX3_start_17 : decode cX3_start 17 = .ok (.putfield 21, 3) := by decide +kernel
theorem dX3_start_20 : decode cX3_start 20 = .ok (.aload_n 0, 1) := by decide +kernel
theorem dX3_start_21 : decode cX3_start 21 = .ok (.iconst 0, 1) := by decide +kernel
theorem dX3_start_22 : decode cX3_start 22 = .ok (.putfield 25, 3) := by decide +kernel
theorem dX3_start_25 : decode cX3_start 25 = .ok (.return_, 1) := by decide +kernel
theorem dX3_copyOf_0 : decode cX3_copyOf 0 = .ok (.aload_n 0, 1) := by decide +kernel
theorem dX3_copyOf_1 : decode cX3_copyOf 1 = .ok (.aload_n 1, 1) := by decide +kernel
theorem dX3_copyOf_2 : decode cX3_copyOf 2 = .ok (.getfield 9, 3) := by decide +kernel
theorem dX3_copyOf_5 : decode cX3_copyOf 5 = .ok (.putfield 9, 3) := by decide +kernel
theorem dX3_copyOf_8 : decode cX3_copyOf 8 = .ok (.aload_n 0, 1) := by decide +kernel
theorem dX3_copyOf_9 : decode cX3_copyOf 9 = .ok (.aload_n 1, 1) := by decide +kernel
theorem dX3_copyOf_10 : decode cX3_copyOf 10 = .ok (.getfield 15, 3) := by decide +kernel
theorem dX3_copyOf_13 : decode cX3_copyOf 13 = .ok (.putfield 15, 3) := by decide +kernel
theorem dX3_copyOf_16 : decode cX3_copyOf 16 = .ok (.aload_n 0, 1) := by decide +kernel
theorem dX3_copyOf_17 : decode cX3_copyOf 17 = .ok (.aload_n 1, 1) := by decide +kernel
theorem dX3_copyOf_18 : decode cX3_copyOf 18 = .ok (.getfield 18, 3) := by decide +kernel
theorem dX3_copyOf_21 : decode cX3_copyOf 21 = .ok (.putfield 18, 3) := by decide +kernel
theorem dX3_copyOf_24 : decode cX3_copyOf 24 = .ok (.aload_n 0, 1) := by decide +kernel
theorem dX3_copyOf_25 : decode cX3_copyOf 25 = .ok (.aload_n 1, 1) := by decide +kernel
theorem dX3_copyOf_26 : decode cX3_copyOf 26 = .ok (.getfield 21, 3) := by decide +kernel
theorem dX3_copyOf_29 : decode cX3_copyOf 29 = .ok (.putfield 21, 3) := by decide +kernel
theorem dX3_copyOf_32 : decode cX3_copyOf 32 = .ok (.aload_n 0, 1) := by decide +kernel
theorem dX3_copyOf_33 : decode cX3_copyOf 33 = .ok (.aload_n 1, 1) := by decide +kernel
theorem dX3_copyOf_34 : decode cX3_copyOf 34 = .ok (.getfield 25, 3) := by decide +kernel
theorem dX3_copyOf_37 : decode cX3_copyOf 37 = .ok (.putfield 25, 3) := by decide +kernel
theorem dX3_copyOf_40 : decode cX3_copyOf 40 = .ok (.return_, 1) := by decide +kernel
theorem dX3_goRound_0 : decode cX3_goRound 0 = .ok (.aload_n 1, 1) := by decide +kernel
theorem dX3_goRound_1 : decode cX3_goRound 1 = .ok (.aload_n 0, 1) := by decide +kernel
theorem dX3_goRound_2 : decode cX3_goRound 2 = .ok (.getfield 9, 3) := by decide +kernel
theorem dX3_goRound_5 : decode cX3_goRound 5 = .ok (.aload_n 0, 1) := by decide +kernel
theorem dX3_goRound_6 : decode cX3_goRound 6 = .ok (.getfield 15, 3) := by decide +kernel
theorem dX3_goRound_9 : decode cX3_goRound 9 = .ok (.aload_n 0, 1) := by decide +kernel
theorem dX3_goRound_10 : decode cX3_goRound 10 = .ok (.getfield 18, 3) := by decide +kernel
theorem dX3_goRound_13 : decode cX3_goRound 13 = .ok (.invokevirtual 28, 3) := by decide +kernel
theorem dX3_goRound_16 : decode cX3_goRound 16 = .ok (.istore_n 2, 1) := by decide +kernel
theorem dX3_goRound_17 : decode cX3_goRound 17 = .ok (.aload_n 0, 1) := by decide +kernel
theorem dX3_goRound_18 : decode cX3_goRound 18 = .ok (.dup, 1) := by decide +kernel
theorem dX3_goRound_19 : decode cX3_goRound 19 = .ok (.getfield 25, 3) := by decide +kernel
theorem dX3_goRound_22 : decode cX3_goRound 22 = .ok (.iload_n 2, 1) := by decide +kernel
theorem dX3_goRound_23 : decode cX3_goRound 23 = .ok (.iadd, 1) := by decide +kernel
theorem dX3_goRound_24 : decode cX3_goRound 24 = .ok (.putfield 25, 3) := by decide +kernel
theorem dX3_goRound_27 : decode cX3_goRound 27 = .ok (.aload_n 0, 1) := by decide +kernel
theorem dX3_goRound_28 : decode cX3_goRound 28 = .ok (.bipush 40, 2) := by decide +kernel
theorem dX3_goRound_30 : decode cX3_goRound 30 = .ok (.aload_n 0, 1) := by decide +kernel
theorem dX3_goRound_31 : decode cX3_goRound 31 = .ok (.getfield 18, 3) := by decide +kernel
theorem dX3_goRound_34 : decode cX3_goRound 34 = .ok (.aload_n 1, 1) := by decide +kernel
theorem dX3_goRound_35 : decode cX3_goRound 35 = .ok (.aload_n 0, 1) := by decide +kernel
theorem dX3_goRound_36 : decode cX3_goRound 36 = .ok (.getfield 9, 3) := by decide +kernel
theorem dX3_goRound_39 : decode cX3_goRound 39 = .ok (.invokevirtual 34, 3) := by decide +kernel
theorem dX3_goRound_42 : decode cX3_goRound 42 = .ok (.iadd, 1) := by decide +kernel
theorem dX3_goRound_43 : decode cX3_goRound 43 = .ok (.invokestatic 38, 3) := by decide +kernel
theorem dX3_goRound_46 : decode cX3_goRound 46 = .ok (.putfield 18, 3) := by decide +kernel
theorem dX3_goRound_49 : decode cX3_goRound 49 = .ok (.iload_n 2, 1) := by decide +kernel
theorem dX3_goRound_50 : decode cX3_goRound 50 = .ok (.ifCond .ne 7, 3) := by decide +kernel
theorem dX3_goRound_53 : decode cX3_goRound 53 = .ok (.aload_n 0, 1) := by decide +kernel
theorem dX3_goRound_54 : decode cX3_goRound 54 = .ok (.invokevirtual 44, 3) := by decide +kernel
theorem dX3_goRound_57 : decode cX3_goRound 57 = .ok (.aload_n 0, 1) := by decide +kernel
theorem dX3_goRound_58 : decode cX3_goRound 58 = .ok (.aload_n 1, 1) := by decide +kernel
theorem dX3_goRound_59 : decode cX3_goRound 59 = .ok (.getfield 47, 3) := by decide +kernel
theorem dX3_goRound_62 : decode cX3_goRound 62 = .ok (.invokevirtual 50, 3) := by decide +kernel
theorem dX3_goRound_65 : decode cX3_goRound 65 = .ok (.iload_n 2, 1) := by decide +kernel
theorem dX3_goRound_66 : decode cX3_goRound 66 = .ok (.ireturn, 1) := by decide +kernel
theorem dX3_turn_0 : decode cX3_turn 0 = .ok (.aload_n 0, 1) := by decide +kernel
theorem dX3_turn_1 : decode cX3_turn 1 = .ok (.aload_n 0, 1) := by decide +kernel
theorem dX3_turn_2 : decode cX3_turn 2 = .ok (.getfield 21, 3) := by decide +kernel
theorem dX3_turn_5 : decode cX3_turn 5 = .ok (.ifCond .ne 7, 3) := by decide +kernel
theorem dX3_turn_8 : decode cX3_turn 8 = .ok (.iconst 1, 1) := by decide +kernel
theorem dX3_turn_9 : decode cX3_turn 9 = .ok (.goto 4, 3) := by decide +kernel
theorem dX3_turn_12 : decode cX3_turn 12 = .ok (.iconst 0, 1) := by decide +kernel
theorem dX3_turn_13 : decode cX3_turn 13 = .ok (.putfield 21, 3) := by decide +kernel
theorem dX3_turn_16 : decode cX3_turn 16 = .ok (.return_, 1) := by decide +kernel
theorem dX3_pass_0 : decode cX3_pass 0 = .ok (.aload_n 0, 1) := by decide +kernel
theorem dX3_pass_1 : decode cX3_pass 1 = .ok (.getfield 21, 3) := by decide +kernel
theorem dX3_pass_4 : decode cX3_pass 4 = .ok (.ifCond .eq 29, 3) := by decide +kernel
theorem dX3_pass_7 : decode cX3_pass 7 = .ok (.aload_n 0, 1) := by decide +kernel
theorem dX3_pass_8 : decode cX3_pass 8 = .ok (.aload_n 0, 1) := by decide +kernel
theorem dX3_pass_9 : decode cX3_pass 9 = .ok (.getfield 9, 3) := by decide +kernel
theorem dX3_pass_12 : decode cX3_pass 12 = .ok (.ifCond .le 12, 3) := by decide +kernel
theorem dX3_pass_15 : decode cX3_pass 15 = .ok (.aload_n 0, 1) := by decide +kernel
theorem dX3_pass_16 : decode cX3_pass 16 = .ok (.getfield 9, 3) := by decide +kernel
theorem dX3_pass_19 : decode cX3_pass 19 = .ok (.iconst 1, 1) := by decide +kernel
theorem dX3_pass_20 : decode cX3_pass 20 = .ok (.isub, 1) := by decide +kernel
theorem dX3_pass_21 : decode cX3_pass 21 = .ok (.goto 6, 3) := by decide +kernel
theorem dX3_pass_24 : decode cX3_pass 24 = .ok (.iload_n 1, 1) := by decide +kernel
theorem dX3_pass_25 : decode cX3_pass 25 = .ok (.iconst 1, 1) := by decide +kernel
theorem dX3_pass_26 : decode cX3_pass 26 = .ok (.isub, 1) := by decide +kernel
theorem dX3_pass_27 : decode cX3_pass 27 = .ok (.putfield 9, 3) := by decide +kernel
theorem dX3_pass_30 : decode cX3_pass 30 = .ok (.goto 27, 3) := by decide +kernel
theorem dX3_pass_33 : decode cX3_pass 33 = .ok (.aload_n 0, 1) := by decide +kernel
theorem dX3_pass_34 : decode cX3_pass 34 = .ok (.aload_n 0, 1) := by decide +kernel
theorem dX3_pass_35 : decode cX3_pass 35 = .ok (.getfield 9, 3) := by decide +kernel
theorem dX3_pass_38 : decode cX3_pass 38 = .ok (.iload_n 1, 1) := by decide +kernel
theorem dX3_pass_39 : decode cX3_pass 39 = .ok (.iconst 1, 1) := by decide +kernel
theorem dX3_pass_40 : decode cX3_pass 40 = .ok (.isub, 1) := by decide +kernel
theorem dX3_pass_41 : decode cX3_pass 41 = .ok (.if_icmp .ge 12, 3) := by decide +kernel
theorem dX3_pass_44 : decode cX3_pass 44 = .ok (.aload_n 0, 1) := by decide +kernel
theorem dX3_pass_45 : decode cX3_pass 45 = .ok (.getfield 9, 3) := by decide +kernel
theorem dX3_pass_48 : decode cX3_pass 48 = .ok (.iconst 1, 1) := by decide +kernel
theorem dX3_pass_49 : decode cX3_pass 49 = .ok (.iadd, 1) := by decide +kernel
theorem dX3_pass_50 : decode cX3_pass 50 = .ok (.goto 4, 3) := by decide +kernel
theorem dX3_pass_53 : decode cX3_pass 53 = .ok (.iconst 0, 1) := by decide +kernel
theorem dX3_pass_54 : decode cX3_pass 54 = .ok (.putfield 9, 3) := by decide +kernel
theorem dX3_pass_57 : decode cX3_pass 57 = .ok (.return_, 1) := by decide +kernel
theorem dJ6_bitCount_0f7a4_0 : decode cJ6_bitCount_0f7a4 0 = .ok (.iload_n 0, 1) := by decide +kernel
theorem dJ6_bitCount_0f7a4_1 : decode cJ6_bitCount_0f7a4 1 = .ok (.iload_n 0, 1) := by decide +kernel
theorem dJ6_bitCount_0f7a4_2 : decode cJ6_bitCount_0f7a4 2 = .ok (.iconst 1, 1) := by decide +kernel
theorem dJ6_bitCount_0f7a4_3 : decode cJ6_bitCount_0f7a4 3 = .ok (.iushr, 1) := by decide +kernel
theorem dJ6_bitCount_0f7a4_4 : decode cJ6_bitCount_0f7a4 4 = .ok (.ldc_w 265, 3) := by decide +kernel
theorem dJ6_bitCount_0f7a4_7 : decode cJ6_bitCount_0f7a4 7 = .ok (.iand, 1) := by decide +kernel
theorem dJ6_bitCount_0f7a4_8 : decode cJ6_bitCount_0f7a4 8 = .ok (.isub, 1) := by decide +kernel
theorem dJ6_bitCount_0f7a4_9 : decode cJ6_bitCount_0f7a4 9 = .ok (.istore_n 0, 1) := by decide +kernel
theorem dJ6_bitCount_0f7a4_10 : decode cJ6_bitCount_0f7a4 10 = .ok (.iload_n 0, 1) := by decide +kernel
theorem dJ6_bitCount_0f7a4_11 : decode cJ6_bitCount_0f7a4 11 = .ok (.ldc_w 266, 3) := by decide +kernel
theorem dJ6_bitCount_0f7a4_14 : decode cJ6_bitCount_0f7a4 14 = .ok (.iand, 1) := by decide +kernel
theorem dJ6_bitCount_0f7a4_15 : decode cJ6_bitCount_0f7a4 15 = .ok (.iload_n 0, 1) := by decide +kernel
theorem dJ6_bitCount_0f7a4_16 : decode cJ6_bitCount_0f7a4 16 = .ok (.iconst 2, 1) := by decide +kernel
theorem dJ6_bitCount_0f7a4_17 : decode cJ6_bitCount_0f7a4 17 = .ok (.iushr, 1) := by decide +kernel
theorem dJ6_bitCount_0f7a4_18 : decode cJ6_bitCount_0f7a4 18 = .ok (.ldc_w 266, 3) := by decide +kernel
theorem dJ6_bitCount_0f7a4_21 : decode cJ6_bitCount_0f7a4 21 = .ok (.iand, 1) := by decide +kernel
theorem dJ6_bitCount_0f7a4_22 : decode cJ6_bitCount_0f7a4 22 = .ok (.iadd, 1) := by decide +kernel
theorem dJ6_bitCount_0f7a4_23 : decode cJ6_bitCount_0f7a4 23 = .ok (.istore_n 0, 1) := by decide +kernel
theorem dJ6_bitCount_0f7a4_24 : decode cJ6_bitCount_0f7a4 24 = .ok (.iload_n 0, 1) := by decide +kernel
theorem dJ6_bitCount_0f7a4_25 : decode cJ6_bitCount_0f7a4 25 = .ok (.iload_n 0, 1) := by decide +kernel
theorem dJ6_bitCount_0f7a4_26 : decode cJ6_bitCount_0f7a4 26 = .ok (.iconst 4, 1) := by decide +kernel
theorem dJ6_bitCount_0f7a4_27 : decode cJ6_bitCount_0f7a4 27 = .ok (.iushr, 1) := by decide +kernel
theorem dJ6_bitCount_0f7a4_28 : decode cJ6_bitCount_0f7a4 28 = .ok (.iadd, 1) := by decide +kernel
theorem dJ6_bitCount_0f7a4_29 : decode cJ6_bitCount_0f7a4 29 = .ok (.ldc_w 267, 3) := by decide +kernel
theorem dJ6_bitCount_0f7a4_32 : decode cJ6_bitCount_0f7a4 32 = .ok (.iand, 1) := by decide +kernel
theorem dJ6_bitCount_0f7a4_33 : decode cJ6_bitCount_0f7a4 33 = .ok (.istore_n 0, 1) := by decide +kernel
theorem dJ6_bitCount_0f7a4_34 : decode cJ6_bitCount_0f7a4 34 = .ok (.iload_n 0, 1) := by decide +kernel
theorem dJ6_bitCount_0f7a4_35 : decode cJ6_bitCount_0f7a4 35 = .ok (.iload_n 0, 1) := by decide +kernel
theorem dJ6_bitCount_0f7a4_36 : decode cJ6_bitCount_0f7a4 36 = .ok (.bipush 8, 2) := by decide +kernel
theorem dJ6_bitCount_0f7a4_38 : decode cJ6_bitCount_0f7a4 38 = .ok (.iushr, 1) := by decide +kernel
theorem dJ6_bitCount_0f7a4_39 : decode cJ6_bitCount_0f7a4 39 = .ok (.iadd, 1) := by decide +kernel
theorem dJ6_bitCount_0f7a4_40 : decode cJ6_bitCount_0f7a4 40 = .ok (.istore_n 0, 1) := by decide +kernel
theorem dJ6_bitCount_0f7a4_41 : decode cJ6_bitCount_0f7a4 41 = .ok (.iload_n 0, 1) := by decide +kernel
theorem dJ6_bitCount_0f7a4_42 : decode cJ6_bitCount_0f7a4 42 = .ok (.iload_n 0, 1) := by decide +kernel
theorem dJ6_bitCount_0f7a4_43 : decode cJ6_bitCount_0f7a4 43 = .ok (.bipush 16, 2) := by decide +kernel
theorem dJ6_bitCount_0f7a4_45 : decode cJ6_bitCount_0f7a4 45 = .ok (.iushr, 1) := by decide +kernel
theorem dJ6_bitCount_0f7a4_46 : decode cJ6_bitCount_0f7a4 46 = .ok (.iadd, 1) := by decide +kernel
theorem dJ6_bitCount_0f7a4_47 : decode cJ6_bitCount_0f7a4 47 = .ok (.istore_n 0, 1) := by decide +kernel
theorem dJ6_bitCount_0f7a4_48 : decode cJ6_bitCount_0f7a4 48 = .ok (.iload_n 0, 1) := by decide +kernel
theorem dJ6_bitCount_0f7a4_49 : decode cJ6_bitCount_0f7a4 49 = .ok (.bipush 63, 2) := by decide +kernel
theorem dJ6_bitCount_0f7a4_51 : decode cJ6_bitCount_0f7a4 51 = .ok (.iand, 1) := by decide +kernel
theorem dJ6_bitCount_0f7a4_52 : decode cJ6_bitCount_0f7a4 52 = .ok (.ireturn, 1) := by decide +kernel
