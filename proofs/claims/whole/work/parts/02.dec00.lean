theorem dX0_init_0 : decode cX0_init 0 = .ok (.aload_n 0, 1) := by decide +kernel
theorem dX0_init_1 : decode cX0_init 1 = .ok (.invokespecial 3, 3) := by decide +kernel
theorem dX0_init_4 : decode cX0_init 4 = .ok (.aload_n 0, 1) := by decide +kernel
theorem dX0_init_5 : decode cX0_init 5 = .ok (.new 9, 3) := by decide +kernel
theorem dX0_init_8 : decode cX0_init 8 = .ok (.dup, 1) := by decide +kernel
theorem dX0_init_9 : decode cX0_init 9 = .ok (.invokespecial 11, 3) := by decide +kernel
theorem dX0_init_12 : decode cX0_init 12 = .ok (.putfield 12, 3) := by decide +kernel
theorem dX0_init_15 : decode cX0_init 15 = .ok (.aload_n 0, 1) := by decide +kernel
theorem dX0_init_16 : decode cX0_init 16 = .ok (.bipush 64, 2) := by decide +kernel
theorem dX0_init_18 : decode cX0_init 18 = .ok (.newarray .int, 2) := by decide +kernel
theorem dX0_init_20 : decode cX0_init 20 = .ok (.putfield 18, 3) := by decide +kernel
theorem dX0_init_23 : decode cX0_init 23 = .ok (.aload_n 0, 1) := by decide +kernel
theorem dX0_init_24 : decode cX0_init 24 = .ok (.bipush 64, 2) := by decide +kernel
theorem dX0_init_26 : decode cX0_init 26 = .ok (.newarray .int, 2) := by decide +kernel
theorem dX0_init_28 : decode cX0_init 28 = .ok (.putfield 22, 3) := by decide +kernel
theorem dX0_init_31 : decode cX0_init 31 = .ok (.aload_n 0, 1) := by decide +kernel
theorem dX0_init_32 : decode cX0_init 32 = .ok (.iconst 0, 1) := by decide +kernel
theorem dX0_init_33 : decode cX0_init 33 = .ok (.putfield 25, 3) := by decide +kernel
theorem dX0_init_36 : decode cX0_init 36 = .ok (.aload_n 0, 1) := by decide +kernel
theorem dX0_init_37 : decode cX0_init 37 = .ok (.iconst 0, 1) := by decide +kernel
theorem dX0_init_38 : decode cX0_init 38 = .ok (.putfield 29, 3) := by decide +kernel
theorem dX0_init_41 : decode cX0_init 41 = .ok (.aload_n 0, 1) := by decide +kernel
theorem dX0_init_42 : decode cX0_init 42 = .ok (.bipush (-4), 2) := by decide +kernel
theorem dX0_init_44 : decode cX0_init 44 = .ok (.putfield 33, 3) := by decide +kernel
theorem dX0_init_47 : decode cX0_init 47 = .ok (.aload_n 0, 1) := by decide +kernel
theorem dX0_init_48 : decode cX0_init 48 = .ok (.bipush (-4), 2) := by decide +kernel
theorem dX0_init_50 : decode cX0_init 50 = .ok (.putfield 36, 3) := by decide +kernel
theorem dX0_init_53 : decode cX0_init 53 = .ok (.aload_n 0, 1) := by decide +kernel
theorem dX0_init_54 : decode cX0_init 54 = .ok (.bipush (-4), 2) := by decide +kernel
theorem dX0_init_56 : decode cX0_init 56 = .ok (.putfield 39, 3) := by decide +kernel
theorem dX0_init_59 : decode cX0_init 59 = .ok (.aload_n 0, 1) := by decide +kernel
theorem dX0_init_60 : decode cX0_init 60 = .ok (.iconst 0, 1) := by decide +kernel
theorem dX0_init_61 : decode cX0_init 61 = .ok (.putfield 42, 3) := by decide +kernel
theorem dX0_init_64 : decode cX0_init 64 = .ok (.return_, 1) := by decide +kernel
theorem dX0_forget_0 : decode cX0_forget 0 = .ok (.aload_n 0, 1) := by decide +kernel
theorem dX0_forget_1 : decode cX0_forget 1 = .ok (.iconst 0, 1) := by decide +kernel
theorem dX0_forget_2 : decode cX0_forget 2 = .ok (.putfield 29, 3) := by decide +kernel
theorem dX0_forget_5 : decode cX0_forget 5 = .ok (.aload_n 0, 1) := by decide +kernel
theorem dX0_forget_6 : decode cX0_forget 6 = .ok (.iconst 0, 1) := by decide +kernel
theorem dX0_forget_7 : decode cX0_forget 7 = .ok (.putfield 42, 3) := by decide +kernel
theorem dX0_forget_10 : decode cX0_forget 10 = .ok (.return_, 1) := by decide +kernel
theorem dX0_foresee_0 : decode cX0_foresee 0 = .ok (.aload_n 0, 1) := by decide +kernel
theorem dX0_foresee_1 : decode cX0_foresee 1 = .ok (.getfield 29, 3) := by decide +kernel
theorem dX0_foresee_4 : decode cX0_foresee 4 = .ok (.ifCond .eq 4, 3) := by decide +kernel
theorem dX0_foresee_7 : decode cX0_foresee 7 = .ok (.return_, 1) := by decide +kernel
theorem dX0_foresee_8 : decode cX0_foresee 8 = .ok (.aload_n 0, 1) := by decide +kernel
theorem dX0_foresee_9 : decode cX0_foresee 9 = .ok (.iconst 1, 1) := by decide +kernel
theorem dX0_foresee_10 : decode cX0_foresee 10 = .ok (.putfield 29, 3) := by decide +kernel
theorem dX0_foresee_13 : decode cX0_foresee 13 = .ok (.aload_n 0, 1) := by decide +kernel
theorem dX0_foresee_14 : decode cX0_foresee 14 = .ok (.iconst 0, 1) := by decide +kernel
theorem dX0_foresee_15 : decode cX0_foresee 15 = .ok (.putfield 25, 3) := by decide +kernel
theorem dX0_foresee_18 : decode cX0_foresee 18 = .ok (.aload_n 0, 1) := by decide +kernel
theorem dX0_foresee_19 : decode cX0_foresee 19 = .ok (.getfield 12, 3) := by decide +kernel
theorem dX0_foresee_22 : decode cX0_foresee 22 = .ok (.aload_n 1, 1) := by decide +kernel
theorem dX0_foresee_23 : decode cX0_foresee 23 = .ok (.invokevirtual 45, 3) := by decide +kernel
theorem dX0_foresee_26 : decode cX0_foresee 26 = .ok (.iconst 0, 1) := by decide +kernel
theorem dX0_foresee_27 : decode cX0_foresee 27 = .ok (.istore_n 2, 1) := by decide +kernel
theorem dX0_foresee_28 : decode cX0_foresee 28 = .ok (.iconst 0, 1) := by decide +kernel
theorem dX0_foresee_29 : decode cX0_foresee 29 = .ok (.istore_n 3, 1) := by decide +kernel
theorem dX0_foresee_30 : decode cX0_foresee 30 = .ok (.iload_n 3, 1) := by decide +kernel
theorem dX0_foresee_31 : decode cX0_foresee 31 = .ok (.sipush 1536, 3) := by decide +kernel
theorem dX0_foresee_34 : decode cX0_foresee 34 = .ok (.if_icmp .ge 121, 3) := by decide +kernel
theorem dX0_foresee_37 : decode cX0_foresee 37 = .ok (.aload_n 0, 1) := by decide +kernel
theorem dX0_foresee_38 : decode cX0_foresee 38 = .ok (.getfield 25, 3) := by decide +kernel
theorem dX0_foresee_41 : decode cX0_foresee 41 = .ok (.bipush 64, 2) := by decide +kernel
theorem dX0_foresee_43 : decode cX0_foresee 43 = .ok (.if_icmp .ge 112, 3) := by decide +kernel
theorem dX0_foresee_46 : decode cX0_foresee 46 = .ok (.aload_n 0, 1) := by decide +kernel
theorem dX0_foresee_47 : decode cX0_foresee 47 = .ok (.getfield 12, 3) := by decide +kernel
theorem dX0_foresee_50 : decode cX0_foresee 50 = .ok (.invokevirtual 49, 3) := by decide +kernel
theorem dX0_foresee_53 : decode cX0_foresee 53 = .ok (.ifCond .ne 9, 3) := by decide +kernel
theorem dX0_foresee_56 : decode cX0_foresee 56 = .ok (.iload_n 2, 1) := by decide +kernel
theorem dX0_foresee_57 : decode cX0_foresee 57 = .ok (.bipush 24, 2) := by decide +kernel
theorem dX0_foresee_59 : decode cX0_foresee 59 = .ok (.if_icmp .lt 4, 3) := by decide +kernel
theorem dX0_foresee_62 : decode cX0_foresee 62 = .ok (.return_, 1) := by decide +kernel
theorem dX0_foresee_63 : decode cX0_foresee 63 = .ok (.aload_n 0, 1) := by decide +kernel
theorem dX0_foresee_64 : decode cX0_foresee 64 = .ok (.getfield 12, 3) := by decide +kernel
theorem dX0_foresee_67 : decode cX0_foresee 67 = .ok (.getfield 53, 3) := by decide +kernel
theorem dX0_foresee_70 : decode cX0_foresee 70 = .ok (.istore 4, 2) := by decide +kernel
theorem dX0_foresee_72 : decode cX0_foresee 72 = .ok (.aload_n 0, 1) := by decide +kernel
theorem dX0_foresee_73 : decode cX0_foresee 73 = .ok (.getfield 12, 3) := by decide +kernel
theorem dX0_foresee_76 : decode cX0_foresee 76 = .ok (.bipush 120, 2) := by decide +kernel
theorem dX0_foresee_78 : decode cX0_foresee 78 = .ok (.invokevirtual 56, 3) := by decide +kernel
theorem dX0_foresee_81 : decode cX0_foresee 81 = .ok (.pop, 1) := by decide +kernel
theorem dX0_foresee_82 : decode cX0_foresee 82 = .ok (.aload_n 0, 1) := by decide +kernel
theorem dX0_foresee_83 : decode cX0_foresee 83 = .ok (.getfield 12, 3) := by decide +kernel
theorem dX0_foresee_86 : decode cX0_foresee 86 = .ok (.getfield 53, 3) := by decide +kernel
theorem dX0_foresee_89 : decode cX0_foresee 89 = .ok (.iload 4, 2) := by decide +kernel
theorem dX0_foresee_91 : decode cX0_foresee 91 = .ok (.if_icmp .ne 9, 3) := by decide +kernel
theorem dX0_foresee_94 : decode cX0_foresee 94 = .ok (.iinc 2 1, 3) := by decide +kernel
theorem dX0_foresee_97 : decode cX0_foresee 97 = .ok (.goto 52, 3) := by decide +kernel
theorem dX0_foresee_100 : decode cX0_foresee 100 = .ok (.iconst 0, 1) := by decide +kernel
theorem dX0_foresee_101 : decode cX0_foresee 101 = .ok (.istore_n 2, 1) := by decide +kernel
theorem dX0_foresee_102 : decode cX0_foresee 102 = .ok (.aload_n 0, 1) := by decide +kernel
theorem dX0_foresee_103 : decode cX0_foresee 103 = .ok (.getfield 18, 3) := by decide +kernel
theorem dX0_foresee_106 : decode cX0_foresee 106 = .ok (.aload_n 0, 1) := by decide +kernel
theorem dX0_foresee_107 : decode cX0_foresee 107 = .ok (.getfield 25, 3) := by decide +kernel
theorem dX0_foresee_110 : decode cX0_foresee 110 = .ok (.aload_n 0, 1) := by decide +kernel
theorem dX0_foresee_111 : decode cX0_foresee 111 = .ok (.getfield 12, 3) := by decide +kernel
theorem dX0_foresee_114 : decode cX0_foresee 114 = .ok (.invokevirtual 60, 3) := by decide +kernel
theorem dX0_foresee_117 : decode cX0_foresee 117 = .ok (.iastore, 1) := by decide +kernel
theorem dX0_foresee_118 : decode cX0_foresee 118 = .ok (.aload_n 0, 1) := by decide +kernel
theorem dX0_foresee_119 : decode cX0_foresee 119 = .ok (.getfield 22, 3) := by decide +kernel
theorem dX0_foresee_122 : decode cX0_foresee 122 = .ok (.aload_n 0, 1) := by decide +kernel
theorem dX0_foresee_123 : decode cX0_foresee 123 = .ok (.getfield 25, 3) := by decide +kernel
theorem dX0_foresee_126 : decode cX0_foresee 126 = .ok (.aload_n 0, 1) := by decide +kernel
theorem dX0_foresee_127 : decode cX0_foresee 127 = .ok (.getfield 12, 3) := by decide +kernel
theorem dX0_foresee_130 : decode cX0_foresee 130 = .ok (.getfield 64, 3) := by decide +kernel
theorem dX0_foresee_133 : decode cX0_foresee 133 = .ok (.aload_n 1, 1) := by decide +kernel
theorem dX0_foresee_134 : decode cX0_foresee 134 = .ok (.getfield 64, 3) := by decide +kernel
theorem dX0_foresee_137 : decode cX0_foresee 137 = .ok (.isub, 1) := by decide +kernel
theorem dX0_foresee_138 : decode cX0_foresee 138 = .ok (.iastore, 1) := by decide +kernel
theorem dX0_foresee_139 : decode cX0_foresee 139 = .ok (.aload_n 0, 1) := by decide +kernel
theorem dX0_foresee_140 : decode cX0_foresee 140 = .ok (.dup, 1) := by decide +kernel
theorem dX0_foresee_141 : decode cX0_foresee 141 = .ok (.getfield 25, 3) := by decide +kernel
theorem dX0_foresee_144 : decode cX0_foresee 144 = .ok (.iconst 1, 1) := by decide +kernel
theorem dX0_foresee_145 : decode cX0_foresee 145 = .ok (.iadd, 1) := by decide +kernel
theorem dX0_foresee_146 : decode cX0_foresee 146 = .ok (.putfield 25, 3) := by decide +kernel
theorem dX0_foresee_149 : decode cX0_foresee 149 = .ok (.iinc 3 1, 3) := by decide +kernel
theorem dX0_foresee_152 : decode cX0_foresee 152 = .ok (.goto (-122), 3) := by decide +kernel
theorem dX0_foresee_155 : decode cX0_foresee 155 = .ok (.return_, 1) := by decide +kernel
theorem dX0_startOf_0 : decode cX0_startOf 0 = .ok (.iconst 0, 1) := by decide +kernel
theorem dX0_startOf_1 : decode cX0_startOf 1 = .ok (.istore_n 2, 1) := by decide +kernel
theorem dX0_startOf_2 : decode cX0_startOf 2 = .ok (.iload_n 2, 1) := by decide +kernel
theorem dX0_startOf_3 : decode cX0_startOf 3 = .ok (.aload_n 0, 1) := by decide +kernel
theorem dX0_startOf_4 : decode cX0_startOf 4 = .ok (.getfield 25, 3) := by decide +kernel
theorem dX0_startOf_7 : decode cX0_startOf 7 = .ok (.if_icmp .ge 32, 3) := by decide +kernel
theorem dX0_startOf_10 : decode cX0_startOf 10 = .ok (.iload_n 2, 1) := by decide +kernel
theorem dX0_startOf_11 : decode cX0_startOf 11 = .ok (.bipush 64, 2) := by decide +kernel
theorem dX0_startOf_13 : decode cX0_startOf 13 = .ok (.if_icmp .ge 26, 3) := by decide +kernel
theorem dX0_startOf_16 : decode cX0_startOf 16 = .ok (.aload_n 0, 1) := by decide +kernel
theorem dX0_startOf_17 : decode cX0_startOf 17 = .ok (.getfield 18, 3) := by decide +kernel
theorem dX0_startOf_20 : decode cX0_startOf 20 = .ok (.iload_n 2, 1) := by decide +kernel
theorem dX0_startOf_21 : decode cX0_startOf 21 = .ok (.iaload, 1) := by decide +kernel
theorem dX0_startOf_22 : decode cX0_startOf 22 = .ok (.iload_n 1, 1) := by decide +kernel
theorem dX0_startOf_23 : decode cX0_startOf 23 = .ok (.if_icmp .ne 10, 3) := by decide +kernel
theorem dX0_startOf_26 : decode cX0_startOf 26 = .ok (.aload_n 0, 1) := by decide +kernel
theorem dX0_startOf_27 : decode cX0_startOf 27 = .ok (.getfield 22, 3) := by decide +kernel
theorem dX0_startOf_30 : decode cX0_startOf 30 = .ok (.iload_n 2, 1) := by decide +kernel
theorem dX0_startOf_31 : decode cX0_startOf 31 = .ok (.iaload, 1) := by decide +kernel
theorem dX0_startOf_32 : decode cX0_startOf 32 = .ok (.ireturn, 1) := by decide +kernel
theorem dX0_startOf_33 : decode cX0_startOf 33 = .ok (.iinc 2 1, 3) := by decide +kernel
theorem dX0_startOf_36 : decode cX0_startOf 36 = .ok (.goto (-34), 3) := by decide +kernel
theorem dX0_startOf_39 : decode cX0_startOf 39 = .ok (.bipush (-4), 2) := by decide +kernel
theorem dX0_startOf_41 : decode cX0_startOf 41 = .ok (.ireturn, 1) := by decide +kernel
theorem dX0_doneBy_0 : decode cX0_doneBy 0 = .ok (.aload_n 0, 1) := by decide +kernel
theorem dX0_doneBy_1 : decode cX0_doneBy 1 = .ok (.getfield 12, 3) := by decide +kernel
theorem dX0_doneBy_4 : decode cX0_doneBy 4 = .ok (.aload_n 1, 1) := by decide +kernel
theorem dX0_doneBy_5 : decode cX0_doneBy 5 = .ok (.invokevirtual 45, 3) := by decide +kernel
theorem dX0_doneBy_8 : decode cX0_doneBy 8 = .ok (.aload_n 0, 1) := by decide +kernel
theorem dX0_doneBy_9 : decode cX0_doneBy 9 = .ok (.getfield 12, 3) := by decide +kernel
theorem dX0_doneBy_12 : decode cX0_doneBy 12 = .ok (.iload_n 2, 1) := by decide +kernel
theorem dX0_doneBy_13 : decode cX0_doneBy 13 = .ok (.iload_n 3, 1) := by decide +kernel
theorem dX0_doneBy_14 : decode cX0_doneBy 14 = .ok (.invokevirtual 67, 3) := by decide +kernel
theorem dX0_doneBy_17 : decode cX0_doneBy 17 = .ok (.iconst 0, 1) := by decide +kernel
theorem dX0_doneBy_18 : decode cX0_doneBy 18 = .ok (.istore 4, 2) := by decide +kernel
theorem dX0_doneBy_20 : decode cX0_doneBy 20 = .ok (.iload 4, 2) := by decide +kernel
theorem dX0_doneBy_22 : decode cX0_doneBy 22 = .ok (.sipush 1000, 3) := by decide +kernel
theorem dX0_doneBy_25 : decode cX0_doneBy 25 = .ok (.if_icmp .ge 29, 3) := by decide +kernel
theorem dX0_doneBy_28 : decode cX0_doneBy 28 = .ok (.aload_n 0, 1) := by decide +kernel
theorem dX0_doneBy_29 : decode cX0_doneBy 29 = .ok (.getfield 12, 3) := by decide +kernel
theorem dX0_doneBy_32 : decode cX0_doneBy 32 = .ok (.invokevirtual 49, 3) := by decide +kernel
theorem dX0_doneBy_35 : decode cX0_doneBy 35 = .ok (.ifCond .ne 19, 3) := by decide +kernel
theorem dX0_doneBy_38 : decode cX0_doneBy 38 = .ok (.aload_n 0, 1) := by decide +kernel
theorem dX0_doneBy_39 : decode cX0_doneBy 39 = .ok (.getfield 12, 3) := by decide +kernel
theorem dX0_doneBy_42 : decode cX0_doneBy 42 = .ok (.bipush 120, 2) := by decide +kernel
theorem dX0_doneBy_44 : decode cX0_doneBy 44 = .ok (.invokevirtual 56, 3) := by decide +kernel
theorem dX0_doneBy_47 : decode cX0_doneBy 47 = .ok (.pop, 1) := by decide +kernel
theorem dX0_doneBy_48 : decode cX0_doneBy 48 = .ok (.iinc 4 1, 3) := by decide +kernel
theorem dX0_doneBy_51 : decode cX0_doneBy 51 = .ok (.goto (-31), 3) := by decide +kernel
theorem dX0_doneBy_54 : decode cX0_doneBy 54 = .ok (.aload_n 0, 1) := by decide +kernel
theorem dX0_doneBy_55 : decode cX0_doneBy 55 = .ok (.getfield 12, 3) := by decide +kernel
theorem dX0_doneBy_58 : decode cX0_doneBy 58 = .ok (.getfield 64, 3) := by decide +kernel
theorem dX0_doneBy_61 : decode cX0_doneBy 61 = .ok (.aload_n 1, 1) := by decide +kernel
theorem dX0_doneBy_62 : decode cX0_doneBy 62 = .ok (.getfield 64, 3) := by decide +kernel
theorem dX0_doneBy_65 : decode cX0_doneBy 65 = .ok (.isub, 1) := by decide +kernel
theorem dX0_doneBy_66 : decode cX0_doneBy 66 = .ok (.ireturn, 1) := by decide +kernel
theorem dX0_seekPair_0 : decode cX0_seekPair 0 = .ok (.aload_n 0, 1) := by decide +kernel
theorem dX0_seekPair_1 : decode cX0_seekPair 1 = .ok (.getfield 42, 3) := by decide +kernel
theorem dX0_seekPair_4 : decode cX0_seekPair 4 = .ok (.ifCond .eq 4, 3) := by decide +kernel
theorem dX0_seekPair_7 : decode cX0_seekPair 7 = .ok (.return_, 1) := by decide +kernel
theorem dX0_seekPair_8 : decode cX0_seekPair 8 = .ok (.aload_n 0, 1) := by decide +kernel
theorem dX0_seekPair_9 : decode cX0_seekPair 9 = .ok (.iconst 1, 1) := by decide +kernel
theorem dX0_seekPair_10 : decode cX0_seekPair 10 = .ok (.putfield 42, 3) := by decide +kernel
theorem dX0_seekPair_13 : decode cX0_seekPair 13 = .ok (.aload_n 0, 1) := by decide +kernel
theorem dX0_seekPair_14 : decode cX0_seekPair 14 = .ok (.bipush (-4), 2) := by decide +kernel
theorem dX0_seekPair_16 : decode cX0_seekPair 16 = .ok (.putfield 33, 3) := by decide +kernel
theorem dX0_seekPair_19 : decode cX0_seekPair 19 = .ok (.aload_n 0, 1) := by decide +kernel
theorem dX0_seekPair_20 : decode cX0_seekPair 20 = .ok (.bipush (-4), 2) := by decide +kernel
theorem dX0_seekPair_22 : decode cX0_seekPair 22 = .ok (.putfield 36, 3) := by decide +kernel
theorem dX0_seekPair_25 : decode cX0_seekPair 25 = .ok (.aload_n 0, 1) := by decide +kernel
theorem dX0_seekPair_26 : decode cX0_seekPair 26 = .ok (.bipush (-4), 2) := by decide +kernel
theorem dX0_seekPair_28 : decode cX0_seekPair 28 = .ok (.putfield 39, 3) := by decide +kernel
theorem dX0_seekPair_31 : decode cX0_seekPair 31 = .ok (.aload_n 0, 1) := by decide +kernel
theorem dX0_seekPair_32 : decode cX0_seekPair 32 = .ok (.aload_n 1, 1) := by decide +kernel
theorem dX0_seekPair_33 : decode cX0_seekPair 33 = .ok (.iconst 0, 1) := by decide +kernel
theorem dX0_seekPair_34 : decode cX0_seekPair 34 = .ok (.iconst 0, 1) := by decide +kernel
theorem dX0_seekPair_35 : decode cX0_seekPair 35 = .ok (.invokevirtual 71, 3) := by decide +kernel
theorem dX0_seekPair_38 : decode cX0_seekPair 38 = .ok (.istore_n 2, 1) := by decide +kernel
theorem dX0_seekPair_39 : decode cX0_seekPair 39 = .ok (.iconst 0, 1) := by decide +kernel
theorem dX0_seekPair_40 : decode cX0_seekPair 40 = .ok (.istore_n 3, 1) := by decide +kernel
theorem dX0_seekPair_41 : decode cX0_seekPair 41 = .ok (.iload_n 3, 1) := by decide +kernel
theorem dX0_seekPair_42 : decode cX0_seekPair 42 = .ok (.bipush 10, 2) := by decide +kernel
theorem dX0_seekPair_44 : decode cX0_seekPair 44 = .ok (.if_icmp .ge 77, 3) := by decide +kernel
theorem dX0_seekPair_47 : decode cX0_seekPair 47 = .ok (.iload_n 3, 1) := by decide +kernel
theorem dX0_seekPair_48 : decode cX0_seekPair 48 = .ok (.iconst 1, 1) := by decide +kernel
theorem dX0_seekPair_49 : decode cX0_seekPair 49 = .ok (.iadd, 1) := by decide +kernel
theorem dX0_seekPair_50 : decode cX0_seekPair 50 = .ok (.istore 4, 2) := by decide +kernel
theorem dX0_seekPair_52 : decode cX0_seekPair 52 = .ok (.iload 4, 2) := by decide +kernel
theorem dX0_seekPair_54 : decode cX0_seekPair 54 = .ok (.bipush 10, 2) := by decide +kernel
theorem dX0_seekPair_56 : decode cX0_seekPair 56 = .ok (.if_icmp .ge 59, 3) := by decide +kernel
theorem dX0_seekPair_59 : decode cX0_seekPair 59 = .ok (.aload_n 1, 1) := by decide +kernel
theorem dX0_seekPair_60 : decode cX0_seekPair 60 = .ok (.iload_n 3, 1) := by decide +kernel
theorem dX0_seekPair_61 : decode cX0_seekPair 61 = .ok (.iload 4, 2) := by decide +kernel
theorem dX0_seekPair_63 : decode cX0_seekPair 63 = .ok (.invokestatic 75, 3) := by decide +kernel
theorem dX0_seekPair_66 : decode cX0_seekPair 66 = .ok (.ifCond .eq 14, 3) := by decide +kernel
theorem dX0_seekPair_69 : decode cX0_seekPair 69 = .ok (.aload_n 0, 1) := by decide +kernel
theorem dX0_seekPair_70 : decode cX0_seekPair 70 = .ok (.aload_n 1, 1) := by decide +kernel
theorem dX0_seekPair_71 : decode cX0_seekPair 71 = .ok (.iload_n 3, 1) := by decide +kernel
theorem dX0_seekPair_72 : decode cX0_seekPair 72 = .ok (.iload 4, 2) := by decide +kernel
theorem dX0_seekPair_74 : decode cX0_seekPair 74 = .ok (.invokevirtual 71, 3) := by decide +kernel
theorem dX0_seekPair_77 : decode cX0_seekPair 77 = .ok (.goto 4, 3) := by decide +kernel
theorem dX0_seekPair_80 : decode cX0_seekPair 80 = .ok (.iload_n 2, 1) := by decide +kernel
theorem dX0_seekPair_81 : decode cX0_seekPair 81 = .ok (.istore 5, 2) := by decide +kernel
theorem dX0_seekPair_83 : decode cX0_seekPair 83 = .ok (.iload 5, 2) := by decide +kernel
theorem dX0_seekPair_85 : decode cX0_seekPair 85 = .ok (.iload_n 2, 1) := by decide +kernel
theorem dX0_seekPair_86 : decode cX0_seekPair 86 = .ok (.if_icmp .ge 23, 3) := by decide +kernel
theorem dX0_seekPair_89 : decode cX0_seekPair 89 = .ok (.iload 5, 2) := by decide +kernel
theorem dX0_seekPair_91 : decode cX0_seekPair 91 = .ok (.istore_n 2, 1) := by decide +kernel
theorem dX0_seekPair_92 : decode cX0_seekPair 92 = .ok (.aload_n 0, 1) := by decide +kernel
theorem dX0_seekPair_93 : decode cX0_seekPair 93 = .ok (.iload_n 3, 1) := by decide +kernel
theorem dX0_seekPair_94 : decode cX0_seekPair 94 = .ok (.putfield 33, 3) := by decide +kernel
theorem dX0_seekPair_97 : decode cX0_seekPair 97 = .ok (.aload_n 0, 1) := by decide +kernel
theorem dX0_seekPair_98 : decode cX0_seekPair 98 = .ok (.iload 4, 2) := by decide +kernel
theorem dX0_seekPair_100 : decode cX0_seekPair 100 = .ok (.putfield 36, 3) := by decide +kernel
theorem dX0_seekPair_103 : decode cX0_seekPair 103 = .ok (.aload_n 0, 1) := by decide +kernel
theorem dX0_seekPair_104 : decode cX0_seekPair 104 = .ok (.iload 5, 2) := by decide +kernel
theorem dX0_seekPair_106 : decode cX0_seekPair 106 = .ok (.putfield 39, 3) := by decide +kernel
theorem dX0_seekPair_109 : decode cX0_seekPair 109 = .ok (.iinc 4 1, 3) := by decide +kernel
theorem dX0_seekPair_112 : decode cX0_seekPair 112 = .ok (.goto (-60), 3) := by decide +kernel
theorem dX0_seekPair_115 : decode cX0_seekPair 115 = .ok (.iinc 3 1, 3) := by decide +kernel
theorem dX0_seekPair_118 : decode cX0_seekPair 118 = .ok (.goto (-77), 3) := by decide +kernel
theorem dX0_seekPair_121 : decode cX0_seekPair 121 = .ok (.return_, 1) := by decide +kernel
theorem dX0_mayHelp_0 : decode cX0_mayHelp 0 = .ok (.aload_n 0, 1) := by decide +kernel
theorem dX0_mayHelp_1 : decode cX0_mayHelp 1 = .ok (.iload_n 1, 1) := by decide +kernel
theorem dX0_mayHelp_2 : decode cX0_mayHelp 2 = .ok (.invokevirtual 79, 3) := by decide +kernel
theorem dX0_mayHelp_5 : decode cX0_mayHelp 5 = .ok (.ifCond .ne 31, 3) := by decide +kernel
theorem dX0_mayHelp_8 : decode cX0_mayHelp 8 = .ok (.aload_n 0, 1) := by decide +kernel
theorem dX0_mayHelp_9 : decode cX0_mayHelp 9 = .ok (.iload_n 2, 1) := by decide +kernel
theorem dX0_mayHelp_10 : decode cX0_mayHelp 10 = .ok (.invokevirtual 79, 3) := by decide +kernel
theorem dX0_mayHelp_13 : decode cX0_mayHelp 13 = .ok (.ifCond .ne 23, 3) := by decide +kernel
theorem dX0_mayHelp_16 : decode cX0_mayHelp 16 = .ok (.aload_n 0, 1) := by decide +kernel
theorem dX0_mayHelp_17 : decode cX0_mayHelp 17 = .ok (.iload_n 1, 1) := by decide +kernel
theorem dX0_mayHelp_18 : decode cX0_mayHelp 18 = .ok (.invokevirtual 83, 3) := by decide +kernel
theorem dX0_mayHelp_21 : decode cX0_mayHelp 21 = .ok (.ifCond .ne 11, 3) := by decide +kernel
theorem dX0_mayHelp_24 : decode cX0_mayHelp 24 = .ok (.aload_n 0, 1) := by decide +kernel
theorem dX0_mayHelp_25 : decode cX0_mayHelp 25 = .ok (.iload_n 2, 1) := by decide +kernel
theorem dX0_mayHelp_26 : decode cX0_mayHelp 26 = .ok (.invokevirtual 83, 3) := by decide +kernel
theorem dX0_mayHelp_29 : decode cX0_mayHelp 29 = .ok (.ifCond .eq 7, 3) := by decide +kernel
theorem dX0_mayHelp_32 : decode cX0_mayHelp 32 = .ok (.iconst 1, 1) := by decide +kernel
theorem dX0_mayHelp_33 : decode cX0_mayHelp 33 = .ok (.goto 4, 3) := by decide +kernel
theorem dX0_mayHelp_36 : decode cX0_mayHelp 36 = .ok (.iconst 0, 1) := by decide +kernel
theorem dX0_mayHelp_37 : decode cX0_mayHelp 37 = .ok (.ireturn, 1) := by decide +kernel
theorem dX1_init_0 : decode cX1_init 0 = .ok (.aload_n 0, 1) := by decide +kernel
theorem dX1_init_1 : decode cX1_init 1 = .ok (.invokespecial 3, 3) := by decide +kernel
theorem dX1_init_4 : decode cX1_init 4 = .ok (.aload_n 0, 1) := by decide +kernel
theorem dX1_init_5 : decode cX1_init 5 = .ok (.bipush (-4), 2) := by decide +kernel
theorem dX1_init_7 : decode cX1_init 7 = .ok (.putfield 9, 3) := by decide +kernel
theorem dX1_init_10 : decode cX1_init 10 = .ok (.aload_n 0, 1) := by decide +kernel
theorem dX1_init_11 : decode cX1_init 11 = .ok (.iconst 0, 1) := by decide +kernel
theorem dX1_init_12 : decode cX1_init 12 = .ok (.putfield 15, 3) := by decide +kernel
theorem dX1_init_15 : decode cX1_init 15 = .ok (.aload_n 0, 1) := by decide +kernel
theorem dX1_init_16 : decode cX1_init 16 = .ok (.bipush 24, 2) := by decide +kernel
theorem dX1_init_18 : decode cX1_init 18 = .ok (.newarray .int, 2) := by decide +kernel
theorem dX1_init_20 : decode cX1_init 20 = .ok (.putfield 18, 3) := by decide +kernel
theorem dX1_init_23 : decode cX1_init 23 = .ok (.return_, 1) := by decide +kernel
theorem dX1_hold_0 : decode cX1_hold 0 = .ok (.aload_n 0, 1) := by decide +kernel
theorem dX1_hold_1 : decode cX1_hold 1 = .ok (.iload_n 1, 1) := by decide +kernel
theorem dX1_hold_2 : decode cX1_hold 2 = .ok (.putfield 9, 3) := by decide +kernel
theorem dX1_hold_5 : decode cX1_hold 5 = .ok (.aload_n 0, 1) := by decide +kernel
theorem dX1_hold_6 : decode cX1_hold 6 = .ok (.iload_n 2, 1) := by decide +kernel
theorem dX1_hold_7 : decode cX1_hold 7 = .ok (.putfield 15, 3) := by decide +kernel
theorem dX1_hold_10 : decode cX1_hold 10 = .ok (.iconst 0, 1) := by decide +kernel
theorem dX1_hold_11 : decode cX1_hold 11 = .ok (.istore_n 3, 1) := by decide +kernel
theorem dX1_hold_12 : decode cX1_hold 12 = .ok (.iload_n 3, 1) := by decide +kernel
theorem dX1_hold_13 : decode cX1_hold 13 = .ok (.bipush 24, 2) := by decide +kernel
theorem dX1_hold_15 : decode cX1_hold 15 = .ok (.if_icmp .ge 16, 3) := by decide +kernel
theorem dX1_hold_18 : decode cX1_hold 18 = .ok (.aload_n 0, 1) := by decide +kernel
theorem dX1_hold_19 : decode cX1_hold 19 = .ok (.getfield 18, 3) := by decide +kernel
theorem dX1_hold_22 : decode cX1_hold 22 = .ok (.iload_n 3, 1) := by decide +kernel
theorem dX1_hold_23 : decode cX1_hold 23 = .ok (.iconst 0, 1) := by decide +kernel
theorem dX1_hold_24 : decode cX1_hold 24 = .ok (.iastore, 1) := by decide +kernel
theorem dX1_hold_25 : decode cX1_hold 25 = .ok (.iinc 3 1, 3) := by decide +kernel
theorem dX1_hold_28 : decode cX1_hold 28 = .ok (.goto (-16), 3) := by decide +kernel
theorem dX1_hold_31 : decode cX1_hold 31 = .ok (.return_, 1) := by decide +kernel
theorem dX1_refusalAs_0 : decode cX1_refusalAs 0 = .ok (.aload_n 0, 1) := by decide +kernel
theorem dX1_refusalAs_1 : decode cX1_refusalAs 1 = .ok (.getfield 9, 3) := by decide +kernel
theorem dX1_refusalAs_4 : decode cX1_refusalAs 4 = .ok (.bipush (-4), 2) := by decide +kernel
theorem dX1_refusalAs_6 : decode cX1_refusalAs 6 = .ok (.if_icmp .ne 6, 3) := by decide +kernel
theorem dX1_refusalAs_9 : decode cX1_refusalAs 9 = .ok (.bipush (-11), 2) := by decide +kernel
theorem dX1_refusalAs_11 : decode cX1_refusalAs 11 = .ok (.ireturn, 1) := by decide +kernel
theorem dX1_refusalAs_12 : decode cX1_refusalAs 12 = .ok (.aload_n 0, 1) := by decide +kernel
theorem dX1_refusalAs_13 : decode cX1_refusalAs 13 = .ok (.getfield 9, 3) := by decide +kernel
theorem dX1_refusalAs_16 : decode cX1_refusalAs 16 = .ok (.iload_n 1, 1) := by decide +kernel
theorem dX1_refusalAs_17 : decode cX1_refusalAs 17 = .ok (.if_icmp .ne 7, 3) := by decide +kernel
theorem dX1_refusalAs_20 : decode cX1_refusalAs 20 = .ok (.iconst 0, 1) := by decide +kernel
theorem dX1_refusalAs_21 : decode cX1_refusalAs 21 = .ok (.goto 5, 3) := by decide +kernel
theorem dX1_refusalAs_24 : decode cX1_refusalAs 24 = .ok (.bipush (-12), 2) := by decide +kernel
theorem dX1_refusalAs_26 : decode cX1_refusalAs 26 = .ok (.ireturn, 1) := by decide +kernel
theorem dX1_write_0 : decode cX1_write 0 = .ok (.aload_n 0, 1) := by decide +kernel
theorem dX1_write_1 : decode cX1_write 1 = .ok (.getfield 9, 3) := by decide +kernel
theorem dX1_write_4 : decode cX1_write 4 = .ok (.ifCond .ne 14, 3) := by decide +kernel
theorem dX1_write_7 : decode cX1_write 7 = .ok (.aload_n 0, 1) := by decide +kernel
theorem dX1_write_8 : decode cX1_write 8 = .ok (.getfield 18, 3) := by decide +kernel
theorem dX1_write_11 : decode cX1_write 11 = .ok (.iload_n 1, 1) := by decide +kernel
theorem dX1_write_12 : decode cX1_write 12 = .ok (.iload_n 2, 1) := by decide +kernel
theorem dX1_write_13 : decode cX1_write 13 = .ok (.i2b, 1) := by decide +kernel
theorem dX1_write_14 : decode cX1_write 14 = .ok (.iastore, 1) := by decide +kernel
theorem dX1_write_15 : decode cX1_write 15 = .ok (.goto 29, 3) := by decide +kernel
theorem dX1_write_18 : decode cX1_write 18 = .ok (.aload_n 0, 1) := by decide +kernel
theorem dX1_write_19 : decode cX1_write 19 = .ok (.getfield 9, 3) := by decide +kernel
theorem dX1_write_22 : decode cX1_write 22 = .ok (.iconst 1, 1) := by decide +kernel
theorem dX1_write_23 : decode cX1_write 23 = .ok (.if_icmp .ne 14, 3) := by decide +kernel
theorem dX1_write_26 : decode cX1_write 26 = .ok (.aload_n 0, 1) := by decide +kernel
theorem dX1_write_27 : decode cX1_write 27 = .ok (.getfield 18, 3) := by decide +kernel
theorem dX1_write_30 : decode cX1_write 30 = .ok (.iload_n 1, 1) := by decide +kernel
theorem dX1_write_31 : decode cX1_write 31 = .ok (.iload_n 2, 1) := by decide +kernel
theorem dX1_write_32 : decode cX1_write 32 = .ok (.i2s, 1) := by decide +kernel
theorem dX1_write_33 : decode cX1_write 33 = .ok (.iastore, 1) := by decide +kernel
theorem dX1_write_34 : decode cX1_write 34 = .ok (.goto 10, 3) := by decide +kernel
theorem dX1_write_37 : decode cX1_write 37 = .ok (.aload_n 0, 1) := by decide +kernel
theorem dX1_write_38 : decode cX1_write 38 = .ok (.getfield 18, 3) := by decide +kernel
theorem dX1_write_41 : decode cX1_write 41 = .ok (.iload_n 1, 1) := by decide +kernel
theorem dX1_write_42 : decode cX1_write 42 = .ok (.iload_n 2, 1) := by decide +kernel
theorem dX1_write_43 : decode cX1_write 43 = .ok (.iastore, 1) := by decide +kernel
theorem dX1_write_44 : decode cX1_write 44 = .ok (.return_, 1) := by decide +kernel
theorem dX1_areTimes_0 : decode cX1_areTimes 0 = .ok (.iconst 0, 1) := by decide +kernel
theorem dX1_areTimes_1 : decode cX1_areTimes 1 = .ok (.istore_n 3, 1) := by decide +kernel
theorem dX1_areTimes_2 : decode cX1_areTimes 2 = .ok (.iload_n 3, 1) := by decide +kernel
theorem dX1_areTimes_3 : decode cX1_areTimes 3 = .ok (.iload_n 2, 1) := by decide +kernel
theorem dX1_areTimes_4 : decode cX1_areTimes 4 = .ok (.if_icmp .ge 23, 3) := by decide +kernel
theorem dX1_areTimes_7 : decode cX1_areTimes 7 = .ok (.aload_n 0, 1) := by decide +kernel
theorem dX1_areTimes_8 : decode cX1_areTimes 8 = .ok (.getfield 18, 3) := by decide +kernel
theorem dX1_areTimes_11 : decode cX1_areTimes 11 = .ok (.iload_n 1, 1) := by decide +kernel
theorem dX1_areTimes_12 : decode cX1_areTimes 12 = .ok (.iload_n 3, 1) := by decide +kernel
theorem dX1_areTimes_13 : decode cX1_areTimes 13 = .ok (.iadd, 1) := by decide +kernel
theorem dX1_areTimes_14 : decode cX1_areTimes 14 = .ok (.iaload, 1) := by decide +kernel
theorem dX1_areTimes_15 : decode cX1_areTimes 15 = .ok (.iconst 1, 1) := by decide +kernel
theorem dX1_areTimes_16 : decode cX1_areTimes 16 = .ok (.if_icmp .ge 5, 3) := by decide +kernel
theorem dX1_areTimes_19 : decode cX1_areTimes 19 = .ok (.iconst 0, 1) := by decide +kernel
theorem dX1_areTimes_20 : decode cX1_areTimes 20 = .ok (.ireturn, 1) := by decide +kernel
theorem dX1_areTimes_21 : decode cX1_areTimes 21 = .ok (.iinc 3 1, 3) := by decide +kernel
theorem dX1_areTimes_24 : decode cX1_areTimes 24 = .ok (.goto (-22), 3) := by decide +kernel
theorem dX1_areTimes_27 : decode cX1_areTimes 27 = .ok (.iconst 1, 1) := by decide +kernel
theorem dX1_areTimes_28 : decode cX1_areTimes 28 = .ok (.ireturn, 1) := by decide +kernel
theorem dX1_onlyGap_0 : decode cX1_onlyGap 0 = .ok (.bipush (-4), 2) := by decide +kernel
theorem dX1_onlyGap_2 : decode cX1_onlyGap 2 = .ok (.istore 4, 2) := by decide +kernel
theorem dX1_onlyGap_4 : decode cX1_onlyGap 4 = .ok (.iconst 0, 1) := by decide +kernel
theorem dX1_onlyGap_5 : decode cX1_onlyGap 5 = .ok (.istore 5, 2) := by decide +kernel
theorem dX1_onlyGap_7 : decode cX1_onlyGap 7 = .ok (.iload 5, 2) := by decide +kernel
theorem dX1_onlyGap_9 : decode cX1_onlyGap 9 = .ok (.iload_n 2, 1) := by decide +kernel
theorem dX1_onlyGap_10 : decode cX1_onlyGap 10 = .ok (.if_icmp .ge 36, 3) := by decide +kernel
theorem dX1_onlyGap_13 : decode cX1_onlyGap 13 = .ok (.aload_n 0, 1) := by decide +kernel
theorem dX1_onlyGap_14 : decode cX1_onlyGap 14 = .ok (.getfield 18, 3) := by decide +kernel
theorem dX1_onlyGap_17 : decode cX1_onlyGap 17 = .ok (.iload_n 1, 1) := by decide +kernel
theorem dX1_onlyGap_18 : decode cX1_onlyGap 18 = .ok (.iload 5, 2) := by decide +kernel
theorem dX1_onlyGap_20 : decode cX1_onlyGap 20 = .ok (.iadd, 1) := by decide +kernel
theorem dX1_onlyGap_21 : decode cX1_onlyGap 21 = .ok (.iaload, 1) := by decide +kernel
theorem dX1_onlyGap_22 : decode cX1_onlyGap 22 = .ok (.iload_n 3, 1) := by decide +kernel
theorem dX1_onlyGap_23 : decode cX1_onlyGap 23 = .ok (.if_icmp .lt 17, 3) := by decide +kernel
theorem dX1_onlyGap_26 : decode cX1_onlyGap 26 = .ok (.iload 4, 2) := by decide +kernel
theorem dX1_onlyGap_28 : decode cX1_onlyGap 28 = .ok (.bipush (-4), 2) := by decide +kernel
theorem dX1_onlyGap_30 : decode cX1_onlyGap 30 = .ok (.if_icmp .eq 6, 3) := by decide +kernel
theorem dX1_onlyGap_33 : decode cX1_onlyGap 33 = .ok (.bipush (-4), 2) := by decide +kernel
theorem dX1_onlyGap_35 : decode cX1_onlyGap 35 = .ok (.ireturn, 1) := by decide +kernel
theorem dX1_onlyGap_36 : decode cX1_onlyGap 36 = .ok (.iload 5, 2) := by decide +kernel
theorem dX1_onlyGap_38 : decode cX1_onlyGap 38 = .ok (.istore 4, 2) := by decide +kernel
theorem dX1_onlyGap_40 : decode cX1_onlyGap 40 = .ok (.iinc 5 1, 3) := by decide +kernel
theorem dX1_onlyGap_43 : decode cX1_onlyGap 43 = .ok (.goto (-36), 3) := by decide +kernel
theorem dX1_onlyGap_46 : decode cX1_onlyGap 46 = .ok (.iload 4, 2) := by decide +kernel
theorem dX1_onlyGap_48 : decode cX1_onlyGap 48 = .ok (.ireturn, 1) := by decide +kernel
theorem dX2_init_0 : decode cX2_init 0 = .ok (.aload_n 0, 1) := by decide +kernel
theorem dX2_init_1 : decode cX2_init 1 = .ok (.invokespecial 3, 3) := by decide +kernel
theorem dX2_init_4 : decode cX2_init 4 = .ok (.aload_n 0, 1) := by decide +kernel
theorem dX2_init_5 : decode cX2_init 5 = .ok (.bipush 80, 2) := by decide +kernel
theorem dX2_init_7 : decode cX2_init 7 = .ok (.newarray .byte, 2) := by decide +kernel
theorem dX2_init_9 : decode cX2_init 9 = .ok (.putfield 9, 3) := by decide +kernel
theorem dX2_init_12 : decode cX2_init 12 = .ok (.aload_n 0, 1) := by decide +kernel
theorem dX2_init_13 : decode cX2_init 13 = .ok (.iconst 0, 1) := by decide +kernel
theorem dX2_init_14 : decode cX2_init 14 = .ok (.putfield 15, 3) := by decide +kernel
theorem dX2_init_17 : decode cX2_init 17 = .ok (.aload_n 0, 1) := by decide +kernel
theorem dX2_init_18 : decode cX2_init 18 = .ok (.iconst 0, 1) := by decide +kernel
theorem dX2_init_19 : decode cX2_init 19 = .ok (.putfield 19, 3) := by decide +kernel
theorem dX2_init_22 : decode cX2_init 22 = .ok (.aload_n 0, 1) := by decide +kernel
theorem dX2_init_23 : decode cX2_init 23 = .ok (.bipush 40, 2) := by decide +kernel
theorem dX2_init_25 : decode cX2_init 25 = .ok (.newarray .int, 2) := by decide +kernel
theorem dX2_init_27 : decode cX2_init 27 = .ok (.putfield 22, 3) := by decide +kernel
theorem dX2_init_30 : decode cX2_init 30 = .ok (.aload_n 0, 1) := by decide +kernel
theorem dX2_init_31 : decode cX2_init 31 = .ok (.bipush 40, 2) := by decide +kernel
theorem dX2_init_33 : decode cX2_init 33 = .ok (.newarray .int, 2) := by decide +kernel
theorem dX2_init_35 : decode cX2_init 35 = .ok (.putfield 26, 3) := by decide +kernel
theorem dX2_init_38 : decode cX2_init 38 = .ok (.aload_n 0, 1) := by decide +kernel
theorem dX2_init_39 : decode cX2_init 39 = .ok (.iconst 0, 1) := by decide +kernel
theorem dX2_init_40 : decode cX2_init 40 = .ok (.putfield 29, 3) := by decide +kernel
theorem dX2_init_43 : decode cX2_init 43 = .ok (.return_, 1) := by decide +kernel
theorem dX2_append_0 : decode cX2_append 0 = .ok (.aload_n 0, 1) := by decide +kernel
theorem dX2_append_1 : decode cX2_append 1 = .ok (.getfield 15, 3) := by decide +kernel
theorem dX2_append_4 : decode cX2_append 4 = .ok (.bipush 80, 2) := by decide +kernel
theorem dX2_append_6 : decode cX2_append 6 = .ok (.if_icmp .ge 24, 3) := by decide +kernel
theorem dX2_append_9 : decode cX2_append 9 = .ok (.aload_n 0, 1) := by decide +kernel
theorem dX2_append_10 : decode cX2_append 10 = .ok (.getfield 9, 3) := by decide +kernel
theorem dX2_append_13 : decode cX2_append 13 = .ok (.aload_n 0, 1) := by decide +kernel
theorem dX2_append_14 : decode cX2_append 14 = .ok (.getfield 15, 3) := by decide +kernel
theorem dX2_append_17 : decode cX2_append 17 = .ok (.iload_n 1, 1) := by decide +kernel
theorem dX2_append_18 : decode cX2_append 18 = .ok (.i2b, 1) := by decide +kernel
theorem dX2_append_19 : decode cX2_append 19 = .ok (.bastore, 1) := by decide +kernel
theorem dX2_append_20 : decode cX2_append 20 = .ok (.aload_n 0, 1) := by decide +kernel
theorem dX2_append_21 : decode cX2_append 21 = .ok (.dup, 1) := by decide +kernel
theorem dX2_append_22 : decode cX2_append 22 = .ok (.getfield 15, 3) := by decide +kernel
theorem dX2_append_25 : decode cX2_append 25 = .ok (.iconst 1, 1) := by decide +kernel
theorem dX2_append_26 : decode cX2_append 26 = .ok (.iadd, 1) := by decide +kernel
theorem dX2_append_27 : decode cX2_append 27 = .ok (.putfield 15, 3) := by decide +kernel
theorem dX2_append_30 : decode cX2_append 30 = .ok (.return_, 1) := by decide +kernel
theorem dX2_readActs_0 : decode cX2_readActs 0 = .ok (.aload_n 0, 1) := by decide +kernel
theorem dX2_readActs_1 : decode cX2_readActs 1 = .ok (.iconst 0, 1) := by decide +kernel
theorem dX2_readActs_2 : decode cX2_readActs 2 = .ok (.putfield 19, 3) := by decide +kernel
theorem dX2_readActs_5 : decode cX2_readActs 5 = .ok (.aload_n 0, 1) := by decide +kernel
theorem dX2_readActs_6 : decode cX2_readActs 6 = .ok (.iconst 0, 1) := by decide +kernel
theorem dX2_readActs_7 : decode cX2_readActs 7 = .ok (.putfield 29, 3) := by decide +kernel
theorem dX2_readActs_10 : decode cX2_readActs 10 = .ok (.aload_n 0, 1) := by decide +kernel
theorem dX2_readActs_11 : decode cX2_readActs 11 = .ok (.invokevirtual 32, 3) := by decide +kernel
theorem dX2_readActs_14 : decode cX2_readActs 14 = .ok (.istore_n 1, 1) := by decide +kernel
theorem dX2_readActs_15 : decode cX2_readActs 15 = .ok (.iconst 0, 1) := by decide +kernel
theorem dX2_readActs_16 : decode cX2_readActs 16 = .ok (.istore_n 2, 1) := by decide +kernel
theorem dX2_readActs_17 : decode cX2_readActs 17 = .ok (.iload_n 2, 1) := by decide +kernel
theorem dX2_readActs_18 : decode cX2_readActs 18 = .ok (.bipush 80, 2) := by decide +kernel
theorem dX2_readActs_20 : decode cX2_readActs 20 = .ok (.if_icmp .ge 26, 3) := by decide +kernel
theorem dX2_readActs_23 : decode cX2_readActs 23 = .ok (.iload_n 1, 1) := by decide +kernel
theorem dX2_readActs_24 : decode cX2_readActs 24 = .ok (.ifCond .ne 22, 3) := by decide +kernel
theorem dX2_readActs_27 : decode cX2_readActs 27 = .ok (.aload_n 0, 1) := by decide +kernel
theorem dX2_readActs_28 : decode cX2_readActs 28 = .ok (.invokevirtual 36, 3) := by decide +kernel
theorem dX2_readActs_31 : decode cX2_readActs 31 = .ok (.iconst (-1), 1) := by decide +kernel
theorem dX2_readActs_32 : decode cX2_readActs 32 = .ok (.if_icmp .eq 14, 3) := by decide +kernel
theorem dX2_readActs_35 : decode cX2_readActs 35 = .ok (.aload_n 0, 1) := by decide +kernel
theorem dX2_readActs_36 : decode cX2_readActs 36 = .ok (.invokevirtual 32, 3) := by decide +kernel
theorem dX2_readActs_39 : decode cX2_readActs 39 = .ok (.istore_n 1, 1) := by decide +kernel
theorem dX2_readActs_40 : decode cX2_readActs 40 = .ok (.iinc 2 1, 3) := by decide +kernel
theorem dX2_readActs_43 : decode cX2_readActs 43 = .ok (.goto (-26), 3) := by decide +kernel
theorem dX2_readActs_46 : decode cX2_readActs 46 = .ok (.iload_n 1, 1) := by decide +kernel
theorem dX2_readActs_47 : decode cX2_readActs 47 = .ok (.ireturn, 1) := by decide +kernel
theorem dX2_readAct_0 : decode cX2_readAct 0 = .ok (.aload_n 0, 1) := by decide +kernel
theorem dX2_readAct_1 : decode cX2_readAct 1 = .ok (.invokevirtual 36, 3) := by decide +kernel
theorem dX2_readAct_4 : decode cX2_readAct 4 = .ok (.istore_n 1, 1) := by decide +kernel
theorem dX2_readAct_5 : decode cX2_readAct 5 = .ok (.iload_n 1, 1) := by decide +kernel
theorem dX2_readAct_6 : decode cX2_readAct 6 = .ok (.bipush 97, 2) := by decide +kernel
theorem dX2_readAct_8 : decode cX2_readAct 8 = .ok (.if_icmp .lt 28, 3) := by decide +kernel
theorem dX2_readAct_11 : decode cX2_readAct 11 = .ok (.iload_n 1, 1) := by decide +kernel
theorem dX2_readAct_12 : decode cX2_readAct 12 = .ok (.bipush 106, 2) := by decide +kernel
theorem dX2_readAct_14 : decode cX2_readAct 14 = .ok (.if_icmp .gt 22, 3) := by decide +kernel
theorem dX2_readAct_17 : decode cX2_readAct 17 = .ok (.aload_n 0, 1) := by decide +kernel
theorem dX2_readAct_18 : decode cX2_readAct 18 = .ok (.dup, 1) := by decide +kernel
theorem dX2_readAct_19 : decode cX2_readAct 19 = .ok (.getfield 19, 3) := by decide +kernel
theorem dX2_readAct_22 : decode cX2_readAct 22 = .ok (.iconst 1, 1) := by decide +kernel
theorem dX2_readAct_23 : decode cX2_readAct 23 = .ok (.iadd, 1) := by decide +kernel
theorem dX2_readAct_24 : decode cX2_readAct 24 = .ok (.putfield 19, 3) := by decide +kernel
theorem dX2_readAct_27 : decode cX2_readAct 27 = .ok (.aload_n 0, 1) := by decide +kernel
theorem dX2_readAct_28 : decode cX2_readAct 28 = .ok (.iload_n 1, 1) := by decide +kernel
theorem dX2_readAct_29 : decode cX2_readAct 29 = .ok (.bipush 97, 2) := by decide +kernel
theorem dX2_readAct_31 : decode cX2_readAct 31 = .ok (.isub, 1) := by decide +kernel
theorem dX2_readAct_32 : decode cX2_readAct 32 = .ok (.invokevirtual 39, 3) := by decide +kernel
theorem dX2_readAct_35 : decode cX2_readAct 35 = .ok (.ireturn, 1) := by decide +kernel
theorem dX2_readAct_36 : decode cX2_readAct 36 = .ok (.iload_n 1, 1) := by decide +kernel
theorem dX2_readAct_37 : decode cX2_readAct 37 = .ok (.bipush 43, 2) := by decide +kernel
theorem dX2_readAct_39 : decode cX2_readAct 39 = .ok (.if_icmp .ne 21, 3) := by decide +kernel
theorem dX2_readAct_42 : decode cX2_readAct 42 = .ok (.aload_n 0, 1) := by decide +kernel
theorem dX2_readAct_43 : decode cX2_readAct 43 = .ok (.dup, 1) := by decide +kernel
theorem dX2_readAct_44 : decode cX2_readAct 44 = .ok (.getfield 19, 3) := by decide +kernel
theorem dX2_readAct_47 : decode cX2_readAct 47 = .ok (.iconst 1, 1) := by decide +kernel
theorem dX2_readAct_48 : decode cX2_readAct 48 = .ok (.iadd, 1) := by decide +kernel
theorem dX2_readAct_49 : decode cX2_readAct 49 = .ok (.putfield 19, 3) := by decide +kernel
theorem dX2_readAct_52 : decode cX2_readAct 52 = .ok (.aload_n 0, 1) := by decide +kernel
theorem dX2_readAct_53 : decode cX2_readAct 53 = .ok (.iconst 1, 1) := by decide +kernel
theorem dX2_readAct_54 : decode cX2_readAct 54 = .ok (.bipush 99, 2) := by decide +kernel
theorem dX2_readAct_56 : decode cX2_readAct 56 = .ok (.invokevirtual 43, 3) := by decide +kernel
theorem dX2_readAct_59 : decode cX2_readAct 59 = .ok (.ireturn, 1) := by decide +kernel
theorem dX2_readAct_60 : decode cX2_readAct 60 = .ok (.iload_n 1, 1) := by decide +kernel
theorem dX2_readAct_61 : decode cX2_readAct 61 = .ok (.bipush 116, 2) := by decide +kernel
theorem dX2_readAct_63 : decode cX2_readAct 63 = .ok (.if_icmp .ne 22, 3) := by decide +kernel
theorem dX2_readAct_66 : decode cX2_readAct 66 = .ok (.aload_n 0, 1) := by decide +kernel
theorem dX2_readAct_67 : decode cX2_readAct 67 = .ok (.dup, 1) := by decide +kernel
theorem dX2_readAct_68 : decode cX2_readAct 68 = .ok (.getfield 19, 3) := by decide +kernel
theorem dX2_readAct_71 : decode cX2_readAct 71 = .ok (.iconst 1, 1) := by decide +kernel
theorem dX2_readAct_72 : decode cX2_readAct 72 = .ok (.iadd, 1) := by decide +kernel
theorem dX2_readAct_73 : decode cX2_readAct 73 = .ok (.putfield 19, 3) := by decide +kernel
theorem dX2_readAct_76 : decode cX2_readAct 76 = .ok (.aload_n 0, 1) := by decide +kernel
theorem dX2_readAct_77 : decode cX2_readAct 77 = .ok (.iconst 2, 1) := by decide +kernel
theorem dX2_readAct_78 : decode cX2_readAct 78 = .ok (.sipush 999, 3) := by decide +kernel
theorem dX2_readAct_81 : decode cX2_readAct 81 = .ok (.invokevirtual 43, 3) := by decide +kernel
theorem dX2_readAct_84 : decode cX2_readAct 84 = .ok (.ireturn, 1) := by decide +kernel
theorem dX2_readAct_85 : decode cX2_readAct 85 = .ok (.bipush (-20), 2) := by decide +kernel
theorem dX2_readAct_87 : decode cX2_readAct 87 = .ok (.aload_n 0, 1) := by decide +kernel
theorem dX2_readAct_88 : decode cX2_readAct 88 = .ok (.getfield 19, 3) := by decide +kernel
theorem dX2_readAct_91 : decode cX2_readAct 91 = .ok (.isub, 1) := by decide +kernel
theorem dX2_readAct_92 : decode cX2_readAct 92 = .ok (.ireturn, 1) := by decide +kernel
theorem dX2_readSide_0 : decode cX2_readSide 0 = .ok (.aload_n 0, 1) := by decide +kernel
theorem dX2_readSide_1 : decode cX2_readSide 1 = .ok (.invokevirtual 36, 3) := by decide +kernel
theorem dX2_readSide_4 : decode cX2_readSide 4 = .ok (.istore_n 2, 1) := by decide +kernel
theorem dX2_readSide_5 : decode cX2_readSide 5 = .ok (.iload_n 2, 1) := by decide +kernel
theorem dX2_readSide_6 : decode cX2_readSide 6 = .ok (.bipush 49, 2) := by decide +kernel
theorem dX2_readSide_8 : decode cX2_readSide 8 = .ok (.if_icmp .eq 17, 3) := by decide +kernel
theorem dX2_readSide_11 : decode cX2_readSide 11 = .ok (.iload_n 2, 1) := by decide +kernel
theorem dX2_readSide_12 : decode cX2_readSide 12 = .ok (.bipush 50, 2) := by decide +kernel
theorem dX2_readSide_14 : decode cX2_readSide 14 = .ok (.if_icmp .eq 11, 3) := by decide +kernel
theorem dX2_readSide_17 : decode cX2_readSide 17 = .ok (.bipush (-20), 2) := by decide +kernel
theorem dX2_readSide_19 : decode cX2_readSide 19 = .ok (.aload_n 0, 1) := by decide +kernel
theorem dX2_readSide_20 : decode cX2_readSide 20 = .ok (.getfield 19, 3) := by decide +kernel
theorem dX2_readSide_23 : decode cX2_readSide 23 = .ok (.isub, 1) := by decide +kernel
theorem dX2_readSide_24 : decode cX2_readSide 24 = .ok (.ireturn, 1) := by decide +kernel
theorem dX2_readSide_25 : decode cX2_readSide 25 = .ok (.aload_n 0, 1) := by decide +kernel
theorem dX2_readSide_26 : decode cX2_readSide 26 = .ok (.dup, 1) := by decide +kernel
theorem dX2_readSide_27 : decode cX2_readSide 27 = .ok (.getfield 19, 3) := by decide +kernel
theorem dX2_readSide_30 : decode cX2_readSide 30 = .ok (.iconst 1, 1) := by decide +kernel
theorem dX2_readSide_31 : decode cX2_readSide 31 = .ok (.iadd, 1) := by decide +kernel
theorem dX2_readSide_32 : decode cX2_readSide 32 = .ok (.putfield 19, 3) := by decide +kernel
theorem dX2_readSide_35 : decode cX2_readSide 35 = .ok (.aload_n 0, 1) := by decide +kernel
theorem dX2_readSide_36 : decode cX2_readSide 36 = .ok (.iconst 0, 1) := by decide +kernel
theorem dX2_readSide_37 : decode cX2_readSide 37 = .ok (.iconst 2, 1) := by decide +kernel
theorem dX2_readSide_38 : decode cX2_readSide 38 = .ok (.iload_n 1, 1) := by decide +kernel
theorem dX2_readSide_39 : decode cX2_readSide 39 = .ok (.imul, 1) := by decide +kernel
theorem dX2_readSide_40 : decode cX2_readSide 40 = .ok (.iload_n 2, 1) := by decide +kernel
theorem dX2_readSide_41 : decode cX2_readSide 41 = .ok (.iadd, 1) := by decide +kernel
theorem dX2_readSide_42 : decode cX2_readSide 42 = .ok (.bipush 49, 2) := by decide +kernel
theorem dX2_readSide_44 : decode cX2_readSide 44 = .ok (.isub, 1) := by decide +kernel
theorem dX2_readSide_45 : decode cX2_readSide 45 = .ok (.invokevirtual 47, 3) := by decide +kernel
theorem dX2_readSide_48 : decode cX2_readSide 48 = .ok (.iconst 0, 1) := by decide +kernel
theorem dX2_readSide_49 : decode cX2_readSide 49 = .ok (.ireturn, 1) := by decide +kernel
theorem dX2_readNumber_0 : decode cX2_readNumber 0 = .ok (.aload_n 0, 1) := by decide +kernel
theorem dX2_readNumber_1 : decode cX2_readNumber 1 = .ok (.invokevirtual 36, 3) := by decide +kernel
theorem dX2_readNumber_4 : decode cX2_readNumber 4 = .ok (.pop, 1) := by decide +kernel
theorem dX2_readNumber_5 : decode cX2_readNumber 5 = .ok (.aload_n 0, 1) := by decide +kernel
theorem dX2_readNumber_6 : decode cX2_readNumber 6 = .ok (.getfield 19, 3) := by decide +kernel
theorem dX2_readNumber_9 : decode cX2_readNumber 9 = .ok (.istore_n 3, 1) := by decide +kernel
theorem dX2_readNumber_10 : decode cX2_readNumber 10 = .ok (.iconst 0, 1) := by decide +kernel
theorem dX2_readNumber_11 : decode cX2_readNumber 11 = .ok (.istore 4, 2) := by decide +kernel
theorem dX2_readNumber_13 : decode cX2_readNumber 13 = .ok (.aload_n 0, 1) := by decide +kernel
theorem dX2_readNumber_14 : decode cX2_readNumber 14 = .ok (.getfield 19, 3) := by decide +kernel
theorem dX2_readNumber_17 : decode cX2_readNumber 17 = .ok (.aload_n 0, 1) := by decide +kernel
theorem dX2_readNumber_18 : decode cX2_readNumber 18 = .ok (.getfield 15, 3) := by decide +kernel
theorem dX2_readNumber_21 : decode cX2_readNumber 21 = .ok (.if_icmp .ge 79, 3) := by decide +kernel
theorem dX2_readNumber_24 : decode cX2_readNumber 24 = .ok (.aload_n 0, 1) := by decide +kernel
theorem dX2_readNumber_25 : decode cX2_readNumber 25 = .ok (.getfield 19, 3) := by decide +kernel
theorem dX2_readNumber_28 : decode cX2_readNumber 28 = .ok (.bipush 80, 2) := by decide +kernel
theorem dX2_readNumber_30 : decode cX2_readNumber 30 = .ok (.if_icmp .ge 70, 3) := by decide +kernel
theorem dX2_readNumber_33 : decode cX2_readNumber 33 = .ok (.aload_n 0, 1) := by decide +kernel
theorem dX2_readNumber_34 : decode cX2_readNumber 34 = .ok (.getfield 9, 3) := by decide +kernel
theorem dX2_readNumber_37 : decode cX2_readNumber 37 = .ok (.aload_n 0, 1) := by decide +kernel
theorem dX2_readNumber_38 : decode cX2_readNumber 38 = .ok (.getfield 19, 3) := by decide +kernel
theorem dX2_readNumber_41 : decode cX2_readNumber 41 = .ok (.baload, 1) := by decide +kernel
theorem dX2_readNumber_42 : decode cX2_readNumber 42 = .ok (.bipush 48, 2) := by decide +kernel
theorem dX2_readNumber_44 : decode cX2_readNumber 44 = .ok (.if_icmp .lt 56, 3) := by decide +kernel
theorem dX2_readNumber_47 : decode cX2_readNumber 47 = .ok (.aload_n 0, 1) := by decide +kernel
theorem dX2_readNumber_48 : decode cX2_readNumber 48 = .ok (.getfield 9, 3) := by decide +kernel
theorem dX2_readNumber_51 : decode cX2_readNumber 51 = .ok (.aload_n 0, 1) := by decide +kernel
theorem dX2_readNumber_52 : decode cX2_readNumber 52 = .ok (.getfield 19, 3) := by decide +kernel
theorem dX2_readNumber_55 : decode cX2_readNumber 55 = .ok (.baload, 1) := by decide +kernel
theorem dX2_readNumber_56 : decode cX2_readNumber 56 = .ok (.bipush 57, 2) := by decide +kernel
theorem dX2_readNumber_58 : decode cX2_readNumber 58 = .ok (.if_icmp .gt 42, 3) := by decide +kernel
theorem dX2_readNumber_61 : decode cX2_readNumber 61 = .ok (.bipush 10, 2) := by decide +kernel
theorem dX2_readNumber_63 : decode cX2_readNumber 63 = .ok (.iload 4, 2) := by decide +kernel
theorem dX2_readNumber_65 : decode cX2_readNumber 65 = .ok (.imul, 1) := by decide +kernel
theorem dX2_readNumber_66 : decode cX2_readNumber 66 = .ok (.aload_n 0, 1) := by decide +kernel
theorem dX2_readNumber_67 : decode cX2_readNumber 67 = .ok (.getfield 9, 3) := by decide +kernel
theorem dX2_readNumber_70 : decode cX2_readNumber 70 = .ok (.aload_n 0, 1) := by decide +kernel
theorem dX2_readNumber_71 : decode cX2_readNumber 71 = .ok (.getfield 19, 3) := by decide +kernel
theorem dX2_readNumber_74 : decode cX2_readNumber 74 = .ok (.baload, 1) := by decide +kernel
theorem dX2_readNumber_75 : decode cX2_readNumber 75 = .ok (.iadd, 1) := by decide +kernel
theorem dX2_readNumber_76 : decode cX2_readNumber 76 = .ok (.bipush 48, 2) := by decide +kernel
theorem dX2_readNumber_78 : decode cX2_readNumber 78 = .ok (.isub, 1) := by decide +kernel
theorem dX2_readNumber_79 : decode cX2_readNumber 79 = .ok (.sipush 1000, 3) := by decide +kernel
theorem dX2_readNumber_82 : decode cX2_readNumber 82 = .ok (.invokestatic 51, 3) := by decide +kernel
theorem dX2_readNumber_85 : decode cX2_readNumber 85 = .ok (.istore 4, 2) := by decide +kernel
theorem dX2_readNumber_87 : decode cX2_readNumber 87 = .ok (.aload_n 0, 1) := by decide +kernel
theorem dX2_readNumber_88 : decode cX2_readNumber 88 = .ok (.dup, 1) := by decide +kernel
theorem dX2_readNumber_89 : decode cX2_readNumber 89 = .ok (.getfield 19, 3) := by decide +kernel
theorem dX2_readNumber_92 : decode cX2_readNumber 92 = .ok (.iconst 1, 1) := by decide +kernel
theorem dX2_readNumber_93 : decode cX2_readNumber 93 = .ok (.iadd, 1) := by decide +kernel
theorem dX2_readNumber_94 : decode cX2_readNumber 94 = .ok (.putfield 19, 3) := by decide +kernel
theorem dX2_readNumber_97 : decode cX2_readNumber 97 = .ok (.goto (-84), 3) := by decide +kernel
theorem dX2_readNumber_100 : decode cX2_readNumber 100 = .ok (.iload 4, 2) := by decide +kernel
theorem dX2_readNumber_102 : decode cX2_readNumber 102 = .ok (.iconst 1, 1) := by decide +kernel
theorem dX2_readNumber_103 : decode cX2_readNumber 103 = .ok (.if_icmp .lt 9, 3) := by decide +kernel
theorem dX2_readNumber_106 : decode cX2_readNumber 106 = .ok (.iload 4, 2) := by decide +kernel
theorem dX2_readNumber_108 : decode cX2_readNumber 108 = .ok (.iload_n 2, 1) := by decide +kernel
theorem dX2_readNumber_109 : decode cX2_readNumber 109 = .ok (.if_icmp .le 8, 3) := by decide +kernel
theorem dX2_readNumber_112 : decode cX2_readNumber 112 = .ok (.bipush (-20), 2) := by decide +kernel
theorem dX2_readNumber_114 : decode cX2_readNumber 114 = .ok (.iload_n 3, 1) := by decide +kernel
theorem dX2_readNumber_115 : decode cX2_readNumber 115 = .ok (.isub, 1) := by decide +kernel
theorem dX2_readNumber_116 : decode cX2_readNumber 116 = .ok (.ireturn, 1) := by decide +kernel
theorem dX2_readNumber_117 : decode cX2_readNumber 117 = .ok (.aload_n 0, 1) := by decide +kernel
theorem dX2_readNumber_118 : decode cX2_readNumber 118 = .ok (.iload_n 1, 1) := by decide +kernel
theorem dX2_readNumber_119 : decode cX2_readNumber 119 = .ok (.iload 4, 2) := by decide +kernel
theorem dX2_readNumber_121 : decode cX2_readNumber 121 = .ok (.invokevirtual 47, 3) := by decide +kernel
theorem dX2_readNumber_124 : decode cX2_readNumber 124 = .ok (.iconst 0, 1) := by decide +kernel
theorem dX2_readNumber_125 : decode cX2_readNumber 125 = .ok (.ireturn, 1) := by decide +kernel
theorem dX2_peek_0 : decode cX2_peek 0 = .ok (.aload_n 0, 1) := by decide +kernel
theorem dX2_peek_1 : decode cX2_peek 1 = .ok (.getfield 19, 3) := by decide +kernel
theorem dX2_peek_4 : decode cX2_peek 4 = .ok (.aload_n 0, 1) := by decide +kernel
theorem dX2_peek_5 : decode cX2_peek 5 = .ok (.getfield 15, 3) := by decide +kernel
theorem dX2_peek_8 : decode cX2_peek 8 = .ok (.if_icmp .ge 39, 3) := by decide +kernel
theorem dX2_peek_11 : decode cX2_peek 11 = .ok (.aload_n 0, 1) := by decide +kernel
theorem dX2_peek_12 : decode cX2_peek 12 = .ok (.getfield 19, 3) := by decide +kernel
theorem dX2_peek_15 : decode cX2_peek 15 = .ok (.bipush 80, 2) := by decide +kernel
theorem dX2_peek_17 : decode cX2_peek 17 = .ok (.if_icmp .ge 30, 3) := by decide +kernel
theorem dX2_peek_20 : decode cX2_peek 20 = .ok (.aload_n 0, 1) := by decide +kernel
theorem dX2_peek_21 : decode cX2_peek 21 = .ok (.getfield 9, 3) := by decide +kernel
theorem dX2_peek_24 : decode cX2_peek 24 = .ok (.aload_n 0, 1) := by decide +kernel
theorem dX2_peek_25 : decode cX2_peek 25 = .ok (.getfield 19, 3) := by decide +kernel
theorem dX2_peek_28 : decode cX2_peek 28 = .ok (.baload, 1) := by decide +kernel
theorem dX2_peek_29 : decode cX2_peek 29 = .ok (.bipush 32, 2) := by decide +kernel
theorem dX2_peek_31 : decode cX2_peek 31 = .ok (.if_icmp .ne 16, 3) := by decide +kernel
theorem dX2_peek_34 : decode cX2_peek 34 = .ok (.aload_n 0, 1) := by decide +kernel
theorem dX2_peek_35 : decode cX2_peek 35 = .ok (.dup, 1) := by decide +kernel
theorem dX2_peek_36 : decode cX2_peek 36 = .ok (.getfield 19, 3) := by decide +kernel
theorem dX2_peek_39 : decode cX2_peek 39 = .ok (.iconst 1, 1) := by decide +kernel
theorem dX2_peek_40 : decode cX2_peek 40 = .ok (.iadd, 1) := by decide +kernel
theorem dX2_peek_41 : decode cX2_peek 41 = .ok (.putfield 19, 3) := by decide +kernel
theorem dX2_peek_44 : decode cX2_peek 44 = .ok (.goto (-44), 3) := by decide +kernel
theorem dX2_peek_47 : decode cX2_peek 47 = .ok (.aload_n 0, 1) := by decide +kernel
theorem dX2_peek_48 : decode cX2_peek 48 = .ok (.getfield 19, 3) := by decide +kernel
theorem dX2_peek_51 : decode cX2_peek 51 = .ok (.aload_n 0, 1) := by decide +kernel
theorem dX2_peek_52 : decode cX2_peek 52 = .ok (.getfield 15, 3) := by decide +kernel
theorem dX2_peek_55 : decode cX2_peek 55 = .ok (.if_icmp .ge 24, 3) := by decide +kernel
theorem dX2_peek_58 : decode cX2_peek 58 = .ok (.aload_n 0, 1) := by decide +kernel
theorem dX2_peek_59 : decode cX2_peek 59 = .ok (.getfield 19, 3) := by decide +kernel
theorem dX2_peek_62 : decode cX2_peek 62 = .ok (.bipush 80, 2) := by decide +kernel
theorem dX2_peek_64 : decode cX2_peek 64 = .ok (.if_icmp .ge 15, 3) := by decide +kernel
theorem dX2_peek_67 : decode cX2_peek 67 = .ok (.aload_n 0, 1) := by decide +kernel
theorem dX2_peek_68 : decode cX2_peek 68 = .ok (.getfield 9, 3) := by decide +kernel
theorem dX2_peek_71 : decode cX2_peek 71 = .ok (.aload_n 0, 1) := by decide +kernel
theorem dX2_peek_72 : decode cX2_peek 72 = .ok (.getfield 19, 3) := by decide +kernel
theorem dX2_peek_75 : decode cX2_peek 75 = .ok (.baload, 1) := by decide +kernel
theorem dX2_peek_76 : decode cX2_peek 76 = .ok (.goto 4, 3) := by decide +kernel
theorem dX2_peek_79 : decode cX2_peek 79 = .ok (.iconst (-1), 1) := by decide +kernel
theorem dX2_peek_80 : decode cX2_peek 80 = .ok (.ireturn, 1) := by decide +kernel
theorem dX2_addAct_0 : decode cX2_addAct 0 = .ok (.aload_n 0, 1) := by decide +kernel
theorem dX2_addAct_1 : decode cX2_addAct 1 = .ok (.getfield 29, 3) := by decide +kernel
theorem dX2_addAct_4 : decode cX2_addAct 4 = .ok (.bipush 40, 2) := by decide +kernel
theorem dX2_addAct_6 : decode cX2_addAct 6 = .ok (.if_icmp .ge 33, 3) := by decide +kernel
theorem dX2_addAct_9 : decode cX2_addAct 9 = .ok (.aload_n 0, 1) := by decide +kernel
theorem dX2_addAct_10 : decode cX2_addAct 10 = .ok (.getfield 22, 3) := by decide +kernel
theorem dX2_addAct_13 : decode cX2_addAct 13 = .ok (.aload_n 0, 1) := by decide +kernel
theorem dX2_addAct_14 : decode cX2_addAct 14 = .ok (.getfield 29, 3) := by decide +kernel
theorem dX2_addAct_17 : decode cX2_addAct 17 = .ok (.iload_n 1, 1) := by decide +kernel
theorem dX2_addAct_18 : decode cX2_addAct 18 = .ok (.iastore, 1) := by decide +kernel
theorem dX2_addAct_19 : decode cX2_addAct 19 = .ok (.aload_n 0, 1) := by decide +kernel
theorem dX2_addAct_20 : decode cX2_addAct 20 = .ok (.getfield 26, 3) := by decide +kernel
theorem dX2_addAct_23 : decode cX2_addAct 23 = .ok (.aload_n 0, 1) := by decide +kernel
theorem dX2_addAct_24 : decode cX2_addAct 24 = .ok (.getfield 29, 3) := by decide +kernel
theorem dX2_addAct_27 : decode cX2_addAct 27 = .ok (.iload_n 2, 1) := by decide +kernel
theorem dX2_addAct_28 : decode cX2_addAct 28 = .ok (.iastore, 1) := by decide +kernel
theorem dX2_addAct_29 : decode cX2_addAct 29 = .ok (.aload_n 0, 1) := by decide +kernel
theorem dX2_addAct_30 : decode cX2_addAct 30 = .ok (.dup, 1) := by decide +kernel
theorem dX2_addAct_31 : decode cX2_addAct 31 = .ok (.getfield 29, 3) := by decide +kernel
theorem dX2_addAct_34 : decode cX2_addAct 34 = .ok (.iconst 1, 1) := by decide +kernel
theorem dX2_addAct_35 : decode cX2_addAct 35 = .ok (.iadd, 1) := by decide +kernel
theorem dX2_addAct_36 : decode cX2_addAct 36 = .ok (.putfield 29, 3) := by decide +kernel
theorem dX2_addAct_39 : decode cX2_addAct 39 = .ok (.return_, 1) := by decide +kernel
theorem dX3_init_0 : decode cX3_init 0 = .ok (.aload_n 0, 1) := by decide +kernel
theorem dX3_init_1 : decode cX3_init 1 = .ok (.invokespecial 1, 3) := by decide +kernel
theorem dX3_init_4 : decode cX3_init 4 = .ok (.aload_n 0, 1) := by decide +kernel
theorem dX3_init_5 : decode cX3_init 5 = .ok (.bipush 10, 2) := by decide +kernel
theorem dX3_init_7 : decode cX3_init 7 = .ok (.putfield 7, 3) := by decide +kernel
theorem dX3_init_10 : decode cX3_init 10 = .ok (.aload_n 0, 1) := by decide +kernel
theorem dX3_init_11 : decode cX3_init 11 = .ok (.bipush 25, 2) := by decide +kernel
theorem dX3_init_13 : decode cX3_init 13 = .ok (.putfield 13, 3) := by decide +kernel
theorem dX3_init_16 : decode cX3_init 16 = .ok (.aload_n 0, 1) := by decide +kernel
theorem dX3_init_17 : decode cX3_init 17 = .ok (.iconst 3, 1) := by decide +kernel
theorem dX3_init_18 : decode cX3_init 18 = .ok (.putfield 16, 3) := by decide +kernel
theorem dX3_init_21 : decode cX3_init 21 = .ok (.aload_n 0, 1) := by decide +kernel
theorem dX3_init_22 : decode cX3_init 22 = .ok (.iconst 0, 1) := by decide +kernel
theorem dX3_init_23 : decode cX3_init 23 = .ok (.putfield 19, 3) := by decide +kernel
theorem dX3_init_26 : decode cX3_init 26 = .ok (.aload_n 0, 1) := by decide +kernel
theorem dX3_init_27 : decode cX3_init 27 = .ok (.iconst 0, 1) := by decide +kernel
theorem dX3_init_28 : decode cX3_init 28 = .ok (.putfield 22, 3) := by decide +kernel
theorem dX3_init_31 : decode cX3_init 31 = .ok (.aload_n 0, 1) := by decide +kernel
theorem dX3_init_32 : decode cX3_init 32 = .ok (.iconst 0, 1) := by decide +kernel
theorem dX3_init_33 : decode cX3_init 33 = .ok (.putfield 25, 3) := by decide +kernel
theorem dX3_init_36 : decode cX3_init 36 = .ok (.aload_n 0, 1) := by decide +kernel
theorem dX3_init_37 : decode cX3_init 37 = .ok (.iconst 0, 1) := by decide +kernel
theorem dX3_init_38 : decode cX3_init 38 = .ok (.putfield 28, 3) := by decide +kernel
theorem dX3_init_41 : decode cX3_init 41 = .ok (.aload_n 0, 1) := by decide +kernel
theorem dX3_init_42 : decode cX3_init 42 = .ok (.iconst 1, 1) := by decide +kernel
theorem dX3_init_43 : decode cX3_init 43 = .ok (.putfield 31, 3) := by decide +kernel
theorem dX3_init_46 : decode cX3_init 46 = .ok (.return_, 1) := by decide +kernel
theorem dX3_copyFrom_0 : decode cX3_copyFrom 0 = .ok (.aload_n 0, 1) := by decide +kernel
theorem dX3_copyFrom_1 : decode cX3_copyFrom 1 = .ok (.aload_n 1, 1) := by decide +kernel
theorem dX3_copyFrom_2 : decode cX3_copyFrom 2 = .ok (.getfield 7, 3) := by decide +kernel
theorem dX3_copyFrom_5 : decode cX3_copyFrom 5 = .ok (.putfield 7, 3) := by decide +kernel
theorem dX3_copyFrom_8 : decode cX3_copyFrom 8 = .ok (.aload_n 0, 1) := by decide +kernel
theorem dX3_copyFrom_9 : decode cX3_copyFrom 9 = .ok (.aload_n 1, 1) := by decide +kernel
theorem dX3_copyFrom_10 : decode cX3_copyFrom 10 = .ok (.getfield 13, 3) := by decide +kernel
theorem dX3_copyFrom_13 : decode cX3_copyFrom 13 = .ok (.putfield 13, 3) := by decide +kernel
theorem dX3_copyFrom_16 : decode cX3_copyFrom 16 = .ok (.aload_n 0, 1) := by decide +kernel
theorem dX3_copyFrom_17 : decode cX3_copyFrom 17 = .ok (.aload_n 1, 1) := by decide +kernel
theorem dX3_copyFrom_18 : decode cX3_copyFrom 18 = .ok (.getfield 16, 3) := by decide +kernel
theorem dX3_copyFrom_21 : decode cX3_copyFrom 21 = .ok (.putfield 16, 3) := by decide +kernel
theorem dX3_copyFrom_24 : decode cX3_copyFrom 24 = .ok (.aload_n 0, 1) := by decide +kernel
theorem dX3_copyFrom_25 : decode cX3_copyFrom 25 = .ok (.aload_n 1, 1) := by decide +kernel
theorem dX3_copyFrom_26 : decode cX3_copyFrom 26 = .ok (.getfield 19, 3) := by decide +kernel
theorem dX3_copyFrom_29 : decode cX3_copyFrom 29 = .ok (.putfield 19, 3) := by decide +kernel
theorem dX3_copyFrom_32 : decode cX3_copyFrom 32 = .ok (.aload_n 0, 1) := by decide +kernel
theorem dX3_copyFrom_33 : decode cX3_copyFrom 33 = .ok (.aload_n 1, 1) := by decide +kernel
theorem dX3_copyFrom_34 : decode cX3_copyFrom 34 = .ok (.getfield 22, 3) := by decide +kernel
theorem dX3_copyFrom_37 : decode cX3_copyFrom 37 = .ok (.putfield 22, 3) := by decide +kernel
theorem dX3_copyFrom_40 : decode cX3_copyFrom 40 = .ok (.aload_n 0, 1) := by decide +kernel
theorem dX3_copyFrom_41 : decode cX3_copyFrom 41 = .ok (.aload_n 1, 1) := by decide +kernel
theorem dX3_copyFrom_42 : decode cX3_copyFrom 42 = .ok (.getfield 25, 3) := by decide +kernel
theorem dX3_copyFrom_45 : decode cX3_copyFrom 45 = .ok (.putfield 25, 3) := by decide +kernel
theorem dX3_copyFrom_48 : decode cX3_copyFrom 48 = .ok (.aload_n 0, 1) := by decide +kernel
theorem dX3_copyFrom_49 : decode cX3_copyFrom 49 = .ok (.aload_n 1, 1) := by decide +kernel
theorem dX3_copyFrom_50 : decode cX3_copyFrom 50 = .ok (.getfield 28, 3) := by decide +kernel
theorem dX3_copyFrom_53 : decode cX3_copyFrom 53 = .ok (.putfield 28, 3) := by decide +kernel
theorem dX3_copyFrom_56 : decode cX3_copyFrom 56 = .ok (.aload_n 0, 1) := by decide +kernel
theorem dX3_copyFrom_57 : decode cX3_copyFrom 57 = .ok (.aload_n 1, 1) := by decide +kernel
theorem dX3_copyFrom_58 : decode cX3_copyFrom 58 = .ok (.getfield 31, 3) := by decide +kernel
theorem dX3_copyFrom_61 : decode cX3_copyFrom 61 = .ok (.putfield 31, 3) := by decide +kernel
theorem dX3_copyFrom_64 : decode cX3_copyFrom 64 = .ok (.return_, 1) := by decide +kernel
theorem dX3_newPrices_0 : decode cX3_newPrices 0 = .ok (.aload_n 0, 1) := by decide +kernel
theorem dX3_newPrices_1 : decode cX3_newPrices 1 = .ok (.iload_n 1, 1) := by decide +kernel
theorem dX3_newPrices_2 : decode cX3_newPrices 2 = .ok (.putfield 7, 3) := by decide +kernel
theorem dX3_newPrices_5 : decode cX3_newPrices 5 = .ok (.aload_n 0, 1) := by decide +kernel
theorem dX3_newPrices_6 : decode cX3_newPrices 6 = .ok (.iload_n 2, 1) := by decide +kernel
theorem dX3_newPrices_7 : decode cX3_newPrices 7 = .ok (.putfield 13, 3) := by decide +kernel
theorem dX3_newPrices_10 : decode cX3_newPrices 10 = .ok (.aload_n 0, 1) := by decide +kernel
theorem dX3_newPrices_11 : decode cX3_newPrices 11 = .ok (.iload_n 3, 1) := by decide +kernel
theorem dX3_newPrices_12 : decode cX3_newPrices 12 = .ok (.putfield 16, 3) := by decide +kernel
theorem dX3_newPrices_15 : decode cX3_newPrices 15 = .ok (.aload_n 0, 1) := by decide +kernel
theorem dX3_newPrices_16 : decode cX3_newPrices 16 = .ok (.iconst 0, 1) := by decide +kernel
theorem dX3_newPrices_17 : decode cX3_newPrices 17 = .ok (.putfield 19, 3) := by decide +kernel
theorem dX3_newPrices_20 : decode cX3_newPrices 20 = .ok (.return_, 1) := by decide +kernel
theorem dX3_take_0 : decode cX3_take 0 = .ok (.aload_n 0, 1) := by decide +kernel
theorem dX3_take_1 : decode cX3_take 1 = .ok (.invokevirtual 34, 3) := by decide +kernel
theorem dX3_take_4 : decode cX3_take 4 = .ok (.istore_n 2, 1) := by decide +kernel
theorem dX3_take_5 : decode cX3_take 5 = .ok (.aload_n 0, 1) := by decide +kernel
theorem dX3_take_6 : decode cX3_take 6 = .ok (.dup, 1) := by decide +kernel
theorem dX3_take_7 : decode cX3_take 7 = .ok (.getfield 19, 3) := by decide +kernel
theorem dX3_take_10 : decode cX3_take 10 = .ok (.iload_n 1, 1) := by decide +kernel
theorem dX3_take_11 : decode cX3_take 11 = .ok (.iadd, 1) := by decide +kernel
theorem dX3_take_12 : decode cX3_take 12 = .ok (.putfield 19, 3) := by decide +kernel
theorem dX3_take_15 : decode cX3_take 15 = .ok (.aload_n 0, 1) := by decide +kernel
theorem dX3_take_16 : decode cX3_take 16 = .ok (.dup, 1) := by decide +kernel
theorem dX3_take_17 : decode cX3_take 17 = .ok (.getfield 28, 3) := by decide +kernel
theorem dX3_take_20 : decode cX3_take 20 = .ok (.iload_n 1, 1) := by decide +kernel
theorem dX3_take_21 : decode cX3_take 21 = .ok (.iadd, 1) := by decide +kernel
theorem dX3_take_22 : decode cX3_take 22 = .ok (.putfield 28, 3) := by decide +kernel
theorem dX3_take_25 : decode cX3_take 25 = .ok (.aload_n 0, 1) := by decide +kernel
theorem dX3_take_26 : decode cX3_take 26 = .ok (.dup, 1) := by decide +kernel
theorem dX3_take_27 : decode cX3_take 27 = .ok (.getfield 22, 3) := by decide +kernel
theorem dX3_take_30 : decode cX3_take 30 = .ok (.iconst 0, 1) := by decide +kernel
theorem dX3_take_31 : decode cX3_take 31 = .ok (.aload_n 0, 1) := by decide +kernel
theorem dX3_take_32 : decode cX3_take 32 = .ok (.invokevirtual 34, 3) := by decide +kernel
theorem dX3_take_35 : decode cX3_take 35 = .ok (.iload_n 2, 1) := by decide +kernel
theorem dX3_take_36 : decode cX3_take 36 = .ok (.isub, 1) := by decide +kernel
theorem dX3_take_37 : decode cX3_take 37 = .ok (.invokestatic 38, 3) := by decide +kernel
theorem dX3_take_40 : decode cX3_take 40 = .ok (.iadd, 1) := by decide +kernel
theorem dX3_take_41 : decode cX3_take 41 = .ok (.putfield 22, 3) := by decide +kernel
theorem dX3_take_44 : decode cX3_take 44 = .ok (.return_, 1) := by decide +kernel
theorem dX3_owed_0 : decode cX3_owed 0 = .ok (.aload_n 0, 1) := by decide +kernel
theorem dX3_owed_1 : decode cX3_owed 1 = .ok (.getfield 7, 3) := by decide +kernel
theorem dX3_owed_4 : decode cX3_owed 4 = .ok (.iconst 1, 1) := by decide +kernel
theorem dX3_owed_5 : decode cX3_owed 5 = .ok (.if_icmp .lt 11, 3) := by decide +kernel
theorem dX3_owed_8 : decode cX3_owed 8 = .ok (.aload_n 0, 1) := by decide +kernel
theorem dX3_owed_9 : decode cX3_owed 9 = .ok (.getfield 13, 3) := by decide +kernel
theorem dX3_owed_12 : decode cX3_owed 12 = .ok (.iconst 1, 1) := by decide +kernel
theorem dX3_owed_13 : decode cX3_owed 13 = .ok (.if_icmp .ge 5, 3) := by decide +kernel
theorem dX3_owed_16 : decode cX3_owed 16 = .ok (.iconst 0, 1) := by decide +kernel
theorem dX3_owed_17 : decode cX3_owed 17 = .ok (.ireturn, 1) := by decide +kernel
theorem dX3_owed_18 : decode cX3_owed 18 = .ok (.aload_n 0, 1) := by decide +kernel
theorem dX3_owed_19 : decode cX3_owed 19 = .ok (.getfield 16, 3) := by decide +kernel
theorem dX3_owed_22 : decode cX3_owed 22 = .ok (.aload_n 0, 1) := by decide +kernel
theorem dX3_owed_23 : decode cX3_owed 23 = .ok (.getfield 19, 3) := by decide +kernel
theorem dX3_owed_26 : decode cX3_owed 26 = .ok (.aload_n 0, 1) := by decide +kernel
theorem dX3_owed_27 : decode cX3_owed 27 = .ok (.getfield 13, 3) := by decide +kernel
theorem dX3_owed_30 : decode cX3_owed 30 = .ok (.idiv, 1) := by decide +kernel
theorem dX3_owed_31 : decode cX3_owed 31 = .ok (.imul, 1) := by decide +kernel
theorem dX3_owed_32 : decode cX3_owed 32 = .ok (.aload_n 0, 1) := by decide +kernel
theorem dX3_owed_33 : decode cX3_owed 33 = .ok (.getfield 19, 3) := by decide +kernel
theorem dX3_owed_36 : decode cX3_owed 36 = .ok (.aload_n 0, 1) := by decide +kernel
theorem dX3_owed_37 : decode cX3_owed 37 = .ok (.getfield 13, 3) := by decide +kernel
theorem dX3_owed_40 : decode cX3_owed 40 = .ok (.irem, 1) := by decide +kernel
theorem dX3_owed_41 : decode cX3_owed 41 = .ok (.aload_n 0, 1) := by decide +kernel
theorem dX3_owed_42 : decode cX3_owed 42 = .ok (.getfield 7, 3) := by decide +kernel
theorem dX3_owed_45 : decode cX3_owed 45 = .ok (.idiv, 1) := by decide +kernel
theorem dX3_owed_46 : decode cX3_owed 46 = .ok (.iadd, 1) := by decide +kernel
theorem dX3_owed_47 : decode cX3_owed 47 = .ok (.ireturn, 1) := by decide +kernel
theorem dX4_init_0 : decode cX4_init 0 = .ok (.aload_n 0, 1) := by decide +kernel
theorem dX4_init_1 : decode cX4_init 1 = .ok (.invokespecial 3, 3) := by decide +kernel
theorem dX4_init_4 : decode cX4_init 4 = .ok (.aload_n 0, 1) := by decide +kernel
theorem dX4_init_5 : decode cX4_init 5 = .ok (.iconst 0, 1) := by decide +kernel
theorem dX4_init_6 : decode cX4_init 6 = .ok (.putfield 9, 3) := by decide +kernel
theorem dX4_init_9 : decode cX4_init 9 = .ok (.aload_n 0, 1) := by decide +kernel
theorem dX4_init_10 : decode cX4_init 10 = .ok (.bipush 32, 2) := by decide +kernel
theorem dX4_init_12 : decode cX4_init 12 = .ok (.newarray .int, 2) := by decide +kernel
theorem dX4_init_14 : decode cX4_init 14 = .ok (.putfield 15, 3) := by decide +kernel
theorem dX4_init_17 : decode cX4_init 17 = .ok (.aload_n 0, 1) := by decide +kernel
theorem dX4_init_18 : decode cX4_init 18 = .ok (.bipush 32, 2) := by decide +kernel
theorem dX4_init_20 : decode cX4_init 20 = .ok (.newarray .int, 2) := by decide +kernel
theorem dX4_init_22 : decode cX4_init 22 = .ok (.putfield 19, 3) := by decide +kernel
theorem dX4_init_25 : decode cX4_init 25 = .ok (.aload_n 0, 1) := by decide +kernel
theorem dX4_init_26 : decode cX4_init 26 = .ok (.bipush 10, 2) := by decide +kernel
theorem dX4_init_28 : decode cX4_init 28 = .ok (.newarray .int, 2) := by decide +kernel
theorem dX4_init_30 : decode cX4_init 30 = .ok (.putfield 22, 3) := by decide +kernel
theorem dX4_init_33 : decode cX4_init 33 = .ok (.aload_n 0, 1) := by decide +kernel
theorem dX4_init_34 : decode cX4_init 34 = .ok (.bipush 20, 2) := by decide +kernel
theorem dX4_init_36 : decode cX4_init 36 = .ok (.newarray .int, 2) := by decide +kernel
theorem dX4_init_38 : decode cX4_init 38 = .ok (.putfield 25, 3) := by decide +kernel
theorem dX4_init_41 : decode cX4_init 41 = .ok (.aload_n 0, 1) := by decide +kernel
theorem dX4_init_42 : decode cX4_init 42 = .ok (.iconst 0, 1) := by decide +kernel
theorem dX4_init_43 : decode cX4_init 43 = .ok (.putfield 28, 3) := by decide +kernel
theorem dX4_init_46 : decode cX4_init 46 = .ok (.aload_n 0, 1) := by decide +kernel
theorem dX4_init_47 : decode cX4_init 47 = .ok (.iconst 0, 1) := by decide +kernel
theorem dX4_init_48 : decode cX4_init 48 = .ok (.putfield 31, 3) := by decide +kernel
theorem dX4_init_51 : decode cX4_init 51 = .ok (.aload_n 0, 1) := by decide +kernel
theorem dX4_init_52 : decode cX4_init 52 = .ok (.iconst 0, 1) := by decide +kernel
theorem dX4_init_53 : decode cX4_init 53 = .ok (.putfield 34, 3) := by decide +kernel
theorem dX4_init_56 : decode cX4_init 56 = .ok (.aload_n 0, 1) := by decide +kernel
theorem dX4_init_57 : decode cX4_init 57 = .ok (.bipush 99, 2) := by decide +kernel
theorem dX4_init_59 : decode cX4_init 59 = .ok (.putfield 37, 3) := by decide +kernel
theorem dX4_init_62 : decode cX4_init 62 = .ok (.aload_n 0, 1) := by decide +kernel
theorem dX4_init_63 : decode cX4_init 63 = .ok (.iconst 0, 1) := by decide +kernel
theorem dX4_init_64 : decode cX4_init 64 = .ok (.putfield 40, 3) := by decide +kernel
theorem dX4_init_67 : decode cX4_init 67 = .ok (.aload_n 0, 1) := by decide +kernel
theorem dX4_init_68 : decode cX4_init 68 = .ok (.iconst 0, 1) := by decide +kernel
theorem dX4_init_69 : decode cX4_init 69 = .ok (.putfield 43, 3) := by decide +kernel
theorem dX4_init_72 : decode cX4_init 72 = .ok (.aload_n 0, 1) := by decide +kernel
theorem dX4_init_73 : decode cX4_init 73 = .ok (.iconst 1, 1) := by decide +kernel
theorem dX4_init_74 : decode cX4_init 74 = .ok (.putfield 46, 3) := by decide +kernel
theorem dX4_init_77 : decode cX4_init 77 = .ok (.aload_n 0, 1) := by decide +kernel
theorem dX4_init_78 : decode cX4_init 78 = .ok (.iconst 0, 1) := by decide +kernel
theorem dX4_init_79 : decode cX4_init 79 = .ok (.putfield 50, 3) := by decide +kernel
theorem dX4_init_82 : decode cX4_init 82 = .ok (.aload_n 0, 1) := by decide +kernel
theorem dX4_init_83 : decode cX4_init 83 = .ok (.iconst 0, 1) := by decide +kernel
theorem dX4_init_84 : decode cX4_init 84 = .ok (.putfield 53, 3) := by decide +kernel
theorem dX4_init_87 : decode cX4_init 87 = .ok (.aload_n 0, 1) := by decide +kernel
theorem dX4_init_88 : decode cX4_init 88 = .ok (.iconst 0, 1) := by decide +kernel
theorem dX4_init_89 : decode cX4_init 89 = .ok (.putfield 56, 3) := by decide +kernel
theorem dX4_init_92 : decode cX4_init 92 = .ok (.aload_n 0, 1) := by decide +kernel
theorem dX4_init_93 : decode cX4_init 93 = .ok (.iconst 0, 1) := by decide +kernel
theorem dX4_init_94 : decode cX4_init 94 = .ok (.putfield 59, 3) := by decide +kernel
theorem dX4_init_97 : decode cX4_init 97 = .ok (.iconst 0, 1) := by decide +kernel
theorem dX4_init_98 : decode cX4_init 98 = .ok (.istore_n 1, 1) := by decide +kernel
theorem dX4_init_99 : decode cX4_init 99 = .ok (.iload_n 1, 1) := by decide +kernel
theorem dX4_init_100 : decode cX4_init 100 = .ok (.bipush 10, 2) := by decide +kernel
theorem dX4_init_102 : decode cX4_init 102 = .ok (.if_icmp .ge 17, 3) := by decide +kernel
theorem dX4_init_105 : decode cX4_init 105 = .ok (.aload_n 0, 1) := by decide +kernel
theorem dX4_init_106 : decode cX4_init 106 = .ok (.getfield 22, 3) := by decide +kernel
theorem dX4_init_109 : decode cX4_init 109 = .ok (.iload_n 1, 1) := by decide +kernel
theorem dX4_init_110 : decode cX4_init 110 = .ok (.bipush (-4), 2) := by decide +kernel
theorem dX4_init_112 : decode cX4_init 112 = .ok (.iastore, 1) := by decide +kernel
theorem dX4_init_113 : decode cX4_init 113 = .ok (.iinc 1 1, 3) := by decide +kernel
theorem dX4_init_116 : decode cX4_init 116 = .ok (.goto (-17), 3) := by decide +kernel
theorem dX4_init_119 : decode cX4_init 119 = .ok (.return_, 1) := by decide +kernel
theorem dX4_copyFrom_0 : decode cX4_copyFrom 0 = .ok (.aload_n 1, 1) := by decide +kernel
theorem dX4_copyFrom_1 : decode cX4_copyFrom 1 = .ok (.getfield 15, 3) := by decide +kernel
theorem dX4_copyFrom_4 : decode cX4_copyFrom 4 = .ok (.iconst 0, 1) := by decide +kernel
theorem dX4_copyFrom_5 : decode cX4_copyFrom 5 = .ok (.aload_n 0, 1) := by decide +kernel
theorem dX4_copyFrom_6 : decode cX4_copyFrom 6 = .ok (.getfield 15, 3) := by decide +kernel
theorem dX4_copyFrom_9 : decode cX4_copyFrom 9 = .ok (.iconst 0, 1) := by decide +kernel
theorem dX4_copyFrom_10 : decode cX4_copyFrom 10 = .ok (.bipush 32, 2) := by decide +kernel
theorem dX4_copyFrom_12 : decode cX4_copyFrom 12 = .ok (.invokestatic 62, 3) := by decide +kernel
theorem dX4_copyFrom_15 : decode cX4_copyFrom 15 = .ok (.aload_n 1, 1) := by decide +kernel
theorem dX4_copyFrom_16 : decode cX4_copyFrom 16 = .ok (.getfield 19, 3) := by decide +kernel
theorem dX4_copyFrom_19 : decode cX4_copyFrom 19 = .ok (.iconst 0, 1) := by decide +kernel
theorem dX4_copyFrom_20 : decode cX4_copyFrom 20 = .ok (.aload_n 0, 1) := by decide +kernel
theorem dX4_copyFrom_21 : decode cX4_copyFrom 21 = .ok (.getfield 19, 3) := by decide +kernel
theorem dX4_copyFrom_24 : decode cX4_copyFrom 24 = .ok (.iconst 0, 1) := by decide +kernel
theorem dX4_copyFrom_25 : decode cX4_copyFrom 25 = .ok (.bipush 32, 2) := by decide +kernel
theorem dX4_copyFrom_27 : decode cX4_copyFrom 27 = .ok (.invokestatic 62, 3) := by decide +kernel
theorem dX4_copyFrom_30 : decode cX4_copyFrom 30 = .ok (.aload_n 1, 1) := by decide +kernel
theorem dX4_copyFrom_31 : decode cX4_copyFrom 31 = .ok (.getfield 22, 3) := by decide +kernel
theorem dX4_copyFrom_34 : decode cX4_copyFrom 34 = .ok (.iconst 0, 1) := by decide +kernel
theorem dX4_copyFrom_35 : decode cX4_copyFrom 35 = .ok (.aload_n 0, 1) := by decide +kernel
theorem dX4_copyFrom_36 : decode cX4_copyFrom 36 = .ok (.getfield 22, 3) := by decide +kernel
theorem dX4_copyFrom_39 : decode cX4_copyFrom 39 = .ok (.iconst 0, 1) := by decide +kernel
theorem dX4_copyFrom_40 : decode cX4_copyFrom 40 = .ok (.bipush 10, 2) := by decide +kernel
theorem dX4_copyFrom_42 : decode cX4_copyFrom 42 = .ok (.invokestatic 62, 3) := by decide +kernel
theorem dX4_copyFrom_45 : decode cX4_copyFrom 45 = .ok (.aload_n 1, 1) := by decide +kernel
theorem dX4_copyFrom_46 : decode cX4_copyFrom 46 = .ok (.getfield 25, 3) := by decide +kernel
theorem dX4_copyFrom_49 : decode cX4_copyFrom 49 = .ok (.iconst 0, 1) := by decide +kernel
theorem dX4_copyFrom_50 : decode cX4_copyFrom 50 = .ok (.aload_n 0, 1) := by decide +kernel
theorem dX4_copyFrom_51 : decode cX4_copyFrom 51 = .ok (.getfield 25, 3) := by decide +kernel
theorem dX4_copyFrom_54 : decode cX4_copyFrom 54 = .ok (.iconst 0, 1) := by decide +kernel
theorem dX4_copyFrom_55 : decode cX4_copyFrom 55 = .ok (.bipush 20, 2) := by decide +kernel
theorem dX4_copyFrom_57 : decode cX4_copyFrom 57 = .ok (.invokestatic 62, 3) := by decide +kernel
theorem dX4_copyFrom_60 : decode cX4_copyFrom 60 = .ok (.aload_n 0, 1) := by decide +kernel
theorem dX4_copyFrom_61 : decode cX4_copyFrom 61 = .ok (.aload_n 1, 1) := by decide +kernel
theorem dX4_copyFrom_62 : decode cX4_copyFrom 62 = .ok (.getfield 9, 3) := by decide +kernel
theorem dX4_copyFrom_65 : decode cX4_copyFrom 65 = .ok (.putfield 9, 3) := by decide +kernel
theorem dX4_copyFrom_68 : decode cX4_copyFrom 68 = .ok (.aload_n 0, 1) := by decide +kernel
theorem dX4_copyFrom_69 : decode cX4_copyFrom 69 = .ok (.aload_n 1, 1) := by decide +kernel
theorem dX4_copyFrom_70 : decode cX4_copyFrom 70 = .ok (.getfield 28, 3) := by decide +kernel
theorem dX4_copyFrom_73 : decode cX4_copyFrom 73 = .ok (.putfield 28, 3) := by decide +kernel
theorem dX4_copyFrom_76 : decode cX4_copyFrom 76 = .ok (.aload_n 0, 1) := by decide +kernel
theorem dX4_copyFrom_77 : decode cX4_copyFrom 77 = .ok (.aload_n 1, 1) := by decide +kernel
theorem dX4_copyFrom_78 : decode cX4_copyFrom 78 = .ok (.getfield 31, 3) := by decide +kernel
theorem dX4_copyFrom_81 : decode cX4_copyFrom 81 = .ok (.putfield 31, 3) := by decide +kernel
theorem dX4_copyFrom_84 : decode cX4_copyFrom 84 = .ok (.aload_n 0, 1) := by decide +kernel
theorem dX4_copyFrom_85 : decode cX4_copyFrom 85 = .ok (.aload_n 1, 1) := by decide +kernel
theorem dX4_copyFrom_86 : decode cX4_copyFrom 86 = .ok (.getfield 34, 3) := by decide +kernel
theorem dX4_copyFrom_89 : decode cX4_copyFrom 89 = .ok (.putfield 34, 3) := by decide +kernel
theorem dX4_copyFrom_92 : decode cX4_copyFrom 92 = .ok (.aload_n 0, 1) := by decide +kernel
theorem dX4_copyFrom_93 : decode cX4_copyFrom 93 = .ok (.aload_n 1, 1) := by decide +kernel
theorem dX4_copyFrom_94 : decode cX4_copyFrom 94 = .ok (.getfield 37, 3) := by decide +kernel
theorem dX4_copyFrom_97 : decode cX4_copyFrom 97 = .ok (.putfield 37, 3) := by decide +kernel
theorem dX4_copyFrom_100 : decode cX4_copyFrom 100 = .ok (.aload_n 0, 1) := by decide +kernel
theorem dX4_copyFrom_101 : decode cX4_copyFrom 101 = .ok (.aload_n 1, 1) := by decide +kernel
theorem dX4_copyFrom_102 : decode cX4_copyFrom 102 = .ok (.getfield 40, 3) := by decide +kernel
theorem dX4_copyFrom_105 : decode cX4_copyFrom 105 = .ok (.putfield 40, 3) := by decide +kernel
theorem dX4_copyFrom_108 : decode cX4_copyFrom 108 = .ok (.aload_n 0, 1) := by decide +kernel
theorem dX4_copyFrom_109 : decode cX4_copyFrom 109 = .ok (.aload_n 1, 1) := by decide +kernel
theorem dX4_copyFrom_110 : decode cX4_copyFrom 110 = .ok (.getfield 43, 3) := by decide +kernel
theorem dX4_copyFrom_113 : decode cX4_copyFrom 113 = .ok (.putfield 43, 3) := by decide +kernel
theorem dX4_copyFrom_116 : decode cX4_copyFrom 116 = .ok (.aload_n 0, 1) := by decide +kernel
theorem dX4_copyFrom_117 : decode cX4_copyFrom 117 = .ok (.aload_n 1, 1) := by decide +kernel
theorem dX4_copyFrom_118 : decode cX4_copyFrom 118 = .ok (.getfield 46, 3) := by decide +kernel
theorem dX4_copyFrom_121 : decode cX4_copyFrom 121 = .ok (.putfield 46, 3) := by decide +kernel
theorem dX4_copyFrom_124 : decode cX4_copyFrom 124 = .ok (.aload_n 0, 1) := by decide +kernel
theorem dX4_copyFrom_125 : decode cX4_copyFrom 125 = .ok (.aload_n 1, 1) := by decide +kernel
theorem dX4_copyFrom_126 : decode cX4_copyFrom 126 = .ok (.getfield 50, 3) := by decide +kernel
theorem dX4_copyFrom_129 : decode cX4_copyFrom 129 = .ok (.putfield 50, 3) := by decide +kernel
theorem dX4_copyFrom_132 : decode cX4_copyFrom 132 = .ok (.aload_n 0, 1) := by decide +kernel
theorem dX4_copyFrom_133 : decode cX4_copyFrom 133 = .ok (.aload_n 1, 1) := by decide +kernel
theorem dX4_copyFrom_134 : decode cX4_copyFrom 134 = .ok (.getfield 53, 3) := by decide +kernel
theorem dX4_copyFrom_137 : decode cX4_copyFrom 137 = .ok (.putfield 53, 3) := by decide +kernel
theorem dX4_copyFrom_140 : decode cX4_copyFrom 140 = .ok (.aload_n 0, 1) := by decide +kernel
theorem dX4_copyFrom_141 : decode cX4_copyFrom 141 = .ok (.aload_n 1, 1) := by decide +kernel
theorem dX4_copyFrom_142 : decode cX4_copyFrom 142 = .ok (.getfield 56, 3) := by decide +kernel
theorem dX4_copyFrom_145 : decode cX4_copyFrom 145 = .ok (.putfield 56, 3) := by decide +kernel
theorem dX4_copyFrom_148 : decode cX4_copyFrom 148 = .ok (.aload_n 0, 1) := by decide +kernel
theorem dX4_copyFrom_149 : decode cX4_copyFrom 149 = .ok (.aload_n 1, 1) := by decide +kernel
theorem dX4_copyFrom_150 : decode cX4_copyFrom 150 = .ok (.getfield 59, 3) := by decide +kernel
theorem dX4_copyFrom_153 : decode cX4_copyFrom 153 = .ok (.putfield 59, 3) := by decide +kernel
theorem dX4_copyFrom_156 : decode cX4_copyFrom 156 = .ok (.return_, 1) := by decide +kernel
theorem dX4_addRecord_0 : decode cX4_addRecord 0 = .ok (.aload_n 0, 1) := by decide +kernel
theorem dX4_addRecord_1 : decode cX4_addRecord 1 = .ok (.getfield 9, 3) := by decide +kernel
theorem dX4_addRecord_4 : decode cX4_addRecord 4 = .ok (.istore_n 3, 1) := by decide +kernel
theorem dX4_addRecord_5 : decode cX4_addRecord 5 = .ok (.aload_n 0, 1) := by decide +kernel
theorem dX4_addRecord_6 : decode cX4_addRecord 6 = .ok (.getfield 15, 3) := by decide +kernel
theorem dX4_addRecord_9 : decode cX4_addRecord 9 = .ok (.iconst 2, 1) := by decide +kernel
theorem dX4_addRecord_10 : decode cX4_addRecord 10 = .ok (.iload_n 3, 1) := by decide +kernel
theorem dX4_addRecord_11 : decode cX4_addRecord 11 = .ok (.imul, 1) := by decide +kernel
theorem dX4_addRecord_12 : decode cX4_addRecord 12 = .ok (.iload_n 1, 1) := by decide +kernel
theorem dX4_addRecord_13 : decode cX4_addRecord 13 = .ok (.iastore, 1) := by decide +kernel
theorem dX4_addRecord_14 : decode cX4_addRecord 14 = .ok (.aload_n 0, 1) := by decide +kernel
theorem dX4_addRecord_15 : decode cX4_addRecord 15 = .ok (.getfield 15, 3) := by decide +kernel
theorem dX4_addRecord_18 : decode cX4_addRecord 18 = .ok (.iconst 2, 1) := by decide +kernel
theorem dX4_addRecord_19 : decode cX4_addRecord 19 = .ok (.iload_n 3, 1) := by decide +kernel
theorem dX4_addRecord_20 : decode cX4_addRecord 20 = .ok (.imul, 1) := by decide +kernel
theorem dX4_addRecord_21 : decode cX4_addRecord 21 = .ok (.iconst 1, 1) := by decide +kernel
theorem dX4_addRecord_22 : decode cX4_addRecord 22 = .ok (.iadd, 1) := by decide +kernel
theorem dX4_addRecord_23 : decode cX4_addRecord 23 = .ok (.iload_n 2, 1) := by decide +kernel
theorem dX4_addRecord_24 : decode cX4_addRecord 24 = .ok (.iastore, 1) := by decide +kernel
theorem dX4_addRecord_25 : decode cX4_addRecord 25 = .ok (.aload_n 0, 1) := by decide +kernel
theorem dX4_addRecord_26 : decode cX4_addRecord 26 = .ok (.dup, 1) := by decide +kernel
theorem dX4_addRecord_27 : decode cX4_addRecord 27 = .ok (.getfield 9, 3) := by decide +kernel
theorem dX4_addRecord_30 : decode cX4_addRecord 30 = .ok (.iconst 1, 1) := by decide +kernel
theorem dX4_addRecord_31 : decode cX4_addRecord 31 = .ok (.iadd, 1) := by decide +kernel
theorem dX4_addRecord_32 : decode cX4_addRecord 32 = .ok (.putfield 9, 3) := by decide +kernel
theorem dX4_addRecord_35 : decode cX4_addRecord 35 = .ok (.iload_n 3, 1) := by decide +kernel
theorem dX4_addRecord_36 : decode cX4_addRecord 36 = .ok (.ireturn, 1) := by decide +kernel
theorem dX4_placeOf_0 : decode cX4_placeOf 0 = .ok (.iconst 0, 1) := by decide +kernel
theorem dX4_placeOf_1 : decode cX4_placeOf 1 = .ok (.istore_n 2, 1) := by decide +kernel
theorem dX4_placeOf_2 : decode cX4_placeOf 2 = .ok (.iload_n 2, 1) := by decide +kernel
theorem dX4_placeOf_3 : decode cX4_placeOf 3 = .ok (.bipush 10, 2) := by decide +kernel
theorem dX4_placeOf_5 : decode cX4_placeOf 5 = .ok (.if_icmp .ge 21, 3) := by decide +kernel
theorem dX4_placeOf_8 : decode cX4_placeOf 8 = .ok (.aload_n 0, 1) := by decide +kernel
theorem dX4_placeOf_9 : decode cX4_placeOf 9 = .ok (.getfield 22, 3) := by decide +kernel
theorem dX4_placeOf_12 : decode cX4_placeOf 12 = .ok (.iload_n 2, 1) := by decide +kernel
theorem dX4_placeOf_13 : decode cX4_placeOf 13 = .ok (.iaload, 1) := by decide +kernel
theorem dX4_placeOf_14 : decode cX4_placeOf 14 = .ok (.iload_n 1, 1) := by decide +kernel
theorem dX4_placeOf_15 : decode cX4_placeOf 15 = .ok (.if_icmp .ne 5, 3) := by decide +kernel
theorem dX4_placeOf_18 : decode cX4_placeOf 18 = .ok (.iload_n 2, 1) := by decide +kernel
theorem dX4_placeOf_19 : decode cX4_placeOf 19 = .ok (.ireturn, 1) := by decide +kernel
theorem dX4_placeOf_20 : decode cX4_placeOf 20 = .ok (.iinc 2 1, 3) := by decide +kernel
theorem dX4_placeOf_23 : decode cX4_placeOf 23 = .ok (.goto (-21), 3) := by decide +kernel
theorem dX4_placeOf_26 : decode cX4_placeOf 26 = .ok (.bipush (-4), 2) := by decide +kernel
theorem dX4_placeOf_28 : decode cX4_placeOf 28 = .ok (.ireturn, 1) := by decide +kernel
theorem dX4_emptyPlaces_0 : decode cX4_emptyPlaces 0 = .ok (.iconst 0, 1) := by decide +kernel
theorem dX4_emptyPlaces_1 : decode cX4_emptyPlaces 1 = .ok (.istore_n 1, 1) := by decide +kernel
theorem dX4_emptyPlaces_2 : decode cX4_emptyPlaces 2 = .ok (.iconst 0, 1) := by decide +kernel
theorem dX4_emptyPlaces_3 : decode cX4_emptyPlaces 3 = .ok (.istore_n 2, 1) := by decide +kernel
theorem dX4_emptyPlaces_4 : decode cX4_emptyPlaces 4 = .ok (.iload_n 2, 1) := by decide +kernel
theorem dX4_emptyPlaces_5 : decode cX4_emptyPlaces 5 = .ok (.bipush 10, 2) := by decide +kernel
theorem dX4_emptyPlaces_7 : decode cX4_emptyPlaces 7 = .ok (.if_icmp .ge 23, 3) := by decide +kernel
theorem dX4_emptyPlaces_10 : decode cX4_emptyPlaces 10 = .ok (.aload_n 0, 1) := by decide +kernel
theorem dX4_emptyPlaces_11 : decode cX4_emptyPlaces 11 = .ok (.getfield 22, 3) := by decide +kernel
theorem dX4_emptyPlaces_14 : decode cX4_emptyPlaces 14 = .ok (.iload_n 2, 1) := by decide +kernel
theorem dX4_emptyPlaces_15 : decode cX4_emptyPlaces 15 = .ok (.iaload, 1) := by decide +kernel
theorem dX4_emptyPlaces_16 : decode cX4_emptyPlaces 16 = .ok (.bipush (-4), 2) := by decide +kernel
theorem dX4_emptyPlaces_18 : decode cX4_emptyPlaces 18 = .ok (.if_icmp .ne 6, 3) := by decide +kernel
theorem dX4_emptyPlaces_21 : decode cX4_emptyPlaces 21 = .ok (.iinc 1 1, 3) := by decide +kernel
theorem dX4_emptyPlaces_24 : decode cX4_emptyPlaces 24 = .ok (.iinc 2 1, 3) := by decide +kernel
theorem dX4_emptyPlaces_27 : decode cX4_emptyPlaces 27 = .ok (.goto (-23), 3) := by decide +kernel
theorem dX4_emptyPlaces_30 : decode cX4_emptyPlaces 30 = .ok (.iload_n 1, 1) := by decide +kernel
theorem dX4_emptyPlaces_31 : decode cX4_emptyPlaces 31 = .ok (.ireturn, 1) := by decide +kernel
theorem dX4_swap_0 : decode cX4_swap 0 = .ok (.aload_n 0, 1) := by decide +kernel
theorem dX4_swap_1 : decode cX4_swap 1 = .ok (.getfield 22, 3) := by decide +kernel
theorem dX4_swap_4 : decode cX4_swap 4 = .ok (.iload_n 1, 1) := by decide +kernel
theorem dX4_swap_5 : decode cX4_swap 5 = .ok (.iaload, 1) := by decide +kernel
theorem dX4_swap_6 : decode cX4_swap 6 = .ok (.istore_n 3, 1) := by decide +kernel
theorem dX4_swap_7 : decode cX4_swap 7 = .ok (.aload_n 0, 1) := by decide +kernel
theorem dX4_swap_8 : decode cX4_swap 8 = .ok (.getfield 22, 3) := by decide +kernel
theorem dX4_swap_11 : decode cX4_swap 11 = .ok (.iload_n 1, 1) := by decide +kernel
theorem dX4_swap_12 : decode cX4_swap 12 = .ok (.aload_n 0, 1) := by decide +kernel
theorem dX4_swap_13 : decode cX4_swap 13 = .ok (.getfield 22, 3) := by decide +kernel
theorem dX4_swap_16 : decode cX4_swap 16 = .ok (.iload_n 2, 1) := by decide +kernel
theorem dX4_swap_17 : decode cX4_swap 17 = .ok (.iaload, 1) := by decide +kernel
theorem dX4_swap_18 : decode cX4_swap 18 = .ok (.iastore, 1) := by decide +kernel
theorem dX4_swap_19 : decode cX4_swap 19 = .ok (.aload_n 0, 1) := by decide +kernel
theorem dX4_swap_20 : decode cX4_swap 20 = .ok (.getfield 22, 3) := by decide +kernel
theorem dX4_swap_23 : decode cX4_swap 23 = .ok (.iload_n 2, 1) := by decide +kernel
theorem dX4_swap_24 : decode cX4_swap 24 = .ok (.iload_n 3, 1) := by decide +kernel
theorem dX4_swap_25 : decode cX4_swap 25 = .ok (.iastore, 1) := by decide +kernel
theorem dX4_swap_26 : decode cX4_swap 26 = .ok (.return_, 1) := by decide +kernel
theorem dX4_isIn_0 : decode cX4_isIn 0 = .ok (.aload_n 0, 1) := by decide +kernel
theorem dX4_isIn_1 : decode cX4_isIn 1 = .ok (.getfield 28, 3) := by decide +kernel
theorem dX4_isIn_4 : decode cX4_isIn 4 = .ok (.iload_n 1, 1) := by decide +kernel
theorem dX4_isIn_5 : decode cX4_isIn 5 = .ok (.ishr, 1) := by decide +kernel
theorem dX4_isIn_6 : decode cX4_isIn 6 = .ok (.iconst 1, 1) := by decide +kernel
theorem dX4_isIn_7 : decode cX4_isIn 7 = .ok (.iand, 1) := by decide +kernel
theorem dX4_isIn_8 : decode cX4_isIn 8 = .ok (.iconst 1, 1) := by decide +kernel
theorem dX4_isIn_9 : decode cX4_isIn 9 = .ok (.if_icmp .ne 7, 3) := by decide +kernel
theorem dX4_isIn_12 : decode cX4_isIn 12 = .ok (.iconst 1, 1) := by decide +kernel
theorem dX4_isIn_13 : decode cX4_isIn 13 = .ok (.goto 4, 3) := by decide +kernel
theorem dX4_isIn_16 : decode cX4_isIn 16 = .ok (.iconst 0, 1) := by decide +kernel
theorem dX4_isIn_17 : decode cX4_isIn 17 = .ok (.ireturn, 1) := by decide +kernel
theorem dX4_howIs_0 : decode cX4_howIs 0 = .ok (.aload_n 0, 1) := by decide +kernel
theorem dX4_howIs_1 : decode cX4_howIs 1 = .ok (.getfield 31, 3) := by decide +kernel
theorem dX4_howIs_4 : decode cX4_howIs 4 = .ok (.iload_n 1, 1) := by decide +kernel
theorem dX4_howIs_5 : decode cX4_howIs 5 = .ok (.ishr, 1) := by decide +kernel
theorem dX4_howIs_6 : decode cX4_howIs 6 = .ok (.iconst 1, 1) := by decide +kernel
theorem dX4_howIs_7 : decode cX4_howIs 7 = .ok (.iand, 1) := by decide +kernel
theorem dX4_howIs_8 : decode cX4_howIs 8 = .ok (.iconst 1, 1) := by decide +kernel
theorem dX4_howIs_9 : decode cX4_howIs 9 = .ok (.if_icmp .ne 5, 3) := by decide +kernel
theorem dX4_howIs_12 : decode cX4_howIs 12 = .ok (.iconst 1, 1) := by decide +kernel
theorem dX4_howIs_13 : decode cX4_howIs 13 = .ok (.ireturn, 1) := by decide +kernel
theorem dX4_howIs_14 : decode cX4_howIs 14 = .ok (.aload_n 0, 1) := by decide +kernel
theorem dX4_howIs_15 : decode cX4_howIs 15 = .ok (.getfield 34, 3) := by decide +kernel
theorem dX4_howIs_18 : decode cX4_howIs 18 = .ok (.iload_n 1, 1) := by decide +kernel
theorem dX4_howIs_19 : decode cX4_howIs 19 = .ok (.ishr, 1) := by decide +kernel
theorem dX4_howIs_20 : decode cX4_howIs 20 = .ok (.iconst 1, 1) := by decide +kernel
theorem dX4_howIs_21 : decode cX4_howIs 21 = .ok (.iand, 1) := by decide +kernel
theorem dX4_howIs_22 : decode cX4_howIs 22 = .ok (.iconst 1, 1) := by decide +kernel
theorem dX4_howIs_23 : decode cX4_howIs 23 = .ok (.if_icmp .ne 7, 3) := by decide +kernel
theorem dX4_howIs_26 : decode cX4_howIs 26 = .ok (.iconst 2, 1) := by decide +kernel
theorem dX4_howIs_27 : decode cX4_howIs 27 = .ok (.goto 4, 3) := by decide +kernel
theorem dX4_howIs_30 : decode cX4_howIs 30 = .ok (.iconst 0, 1) := by decide +kernel
theorem dX4_howIs_31 : decode cX4_howIs 31 = .ok (.ireturn, 1) := by decide +kernel
theorem dX4_makePin_0 : decode cX4_makePin 0 = .ok (.iconst 1, 1) := by decide +kernel
theorem dX4_makePin_1 : decode cX4_makePin 1 = .ok (.iload_n 1, 1) := by decide +kernel
theorem dX4_makePin_2 : decode cX4_makePin 2 = .ok (.ishl, 1) := by decide +kernel
theorem dX4_makePin_3 : decode cX4_makePin 3 = .ok (.istore_n 3, 1) := by decide +kernel
theorem dX4_makePin_4 : decode cX4_makePin 4 = .ok (.aload_n 0, 1) := by decide +kernel
theorem dX4_makePin_5 : decode cX4_makePin 5 = .ok (.dup, 1) := by decide +kernel
theorem dX4_makePin_6 : decode cX4_makePin 6 = .ok (.getfield 31, 3) := by decide +kernel
theorem dX4_makePin_9 : decode cX4_makePin 9 = .ok (.iload_n 3, 1) := by decide +kernel
theorem dX4_makePin_10 : decode cX4_makePin 10 = .ok (.iconst (-1), 1) := by decide +kernel
theorem dX4_makePin_11 : decode cX4_makePin 11 = .ok (.ixor, 1) := by decide +kernel
theorem dX4_makePin_12 : decode cX4_makePin 12 = .ok (.iand, 1) := by decide +kernel
theorem dX4_makePin_13 : decode cX4_makePin 13 = .ok (.putfield 31, 3) := by decide +kernel
theorem dX4_makePin_16 : decode cX4_makePin 16 = .ok (.aload_n 0, 1) := by decide +kernel
theorem dX4_makePin_17 : decode cX4_makePin 17 = .ok (.dup, 1) := by decide +kernel
theorem dX4_makePin_18 : decode cX4_makePin 18 = .ok (.getfield 34, 3) := by decide +kernel
theorem dX4_makePin_21 : decode cX4_makePin 21 = .ok (.iload_n 3, 1) := by decide +kernel
theorem dX4_makePin_22 : decode cX4_makePin 22 = .ok (.iconst (-1), 1) := by decide +kernel
theorem dX4_makePin_23 : decode cX4_makePin 23 = .ok (.ixor, 1) := by decide +kernel
theorem dX4_makePin_24 : decode cX4_makePin 24 = .ok (.iand, 1) := by decide +kernel
theorem dX4_makePin_25 : decode cX4_makePin 25 = .ok (.putfield 34, 3) := by decide +kernel
theorem dX4_makePin_28 : decode cX4_makePin 28 = .ok (.iload_n 2, 1) := by decide +kernel
theorem dX4_makePin_29 : decode cX4_makePin 29 = .ok (.iconst 1, 1) := by decide +kernel
theorem dX4_makePin_30 : decode cX4_makePin 30 = .ok (.if_icmp .ne 26, 3) := by decide +kernel
theorem dX4_makePin_33 : decode cX4_makePin 33 = .ok (.aload_n 0, 1) := by decide +kernel
theorem dX4_makePin_34 : decode cX4_makePin 34 = .ok (.dup, 1) := by decide +kernel
theorem dX4_makePin_35 : decode cX4_makePin 35 = .ok (.getfield 31, 3) := by decide +kernel
theorem dX4_makePin_38 : decode cX4_makePin 38 = .ok (.iload_n 3, 1) := by decide +kernel
theorem dX4_makePin_39 : decode cX4_makePin 39 = .ok (.ior, 1) := by decide +kernel
theorem dX4_makePin_40 : decode cX4_makePin 40 = .ok (.putfield 31, 3) := by decide +kernel
theorem dX4_makePin_43 : decode cX4_makePin 43 = .ok (.aload_n 0, 1) := by decide +kernel
theorem dX4_makePin_44 : decode cX4_makePin 44 = .ok (.dup, 1) := by decide +kernel
theorem dX4_makePin_45 : decode cX4_makePin 45 = .ok (.getfield 28, 3) := by decide +kernel
theorem dX4_makePin_48 : decode cX4_makePin 48 = .ok (.iload_n 3, 1) := by decide +kernel
theorem dX4_makePin_49 : decode cX4_makePin 49 = .ok (.ior, 1) := by decide +kernel
theorem dX4_makePin_50 : decode cX4_makePin 50 = .ok (.putfield 28, 3) := by decide +kernel
theorem dX4_makePin_53 : decode cX4_makePin 53 = .ok (.goto 30, 3) := by decide +kernel
theorem dX4_makePin_56 : decode cX4_makePin 56 = .ok (.iload_n 2, 1) := by decide +kernel
theorem dX4_makePin_57 : decode cX4_makePin 57 = .ok (.iconst 2, 1) := by decide +kernel
theorem dX4_makePin_58 : decode cX4_makePin 58 = .ok (.if_icmp .ne 25, 3) := by decide +kernel
theorem dX4_makePin_61 : decode cX4_makePin 61 = .ok (.aload_n 0, 1) := by decide +kernel
theorem dX4_makePin_62 : decode cX4_makePin 62 = .ok (.dup, 1) := by decide +kernel
theorem dX4_makePin_63 : decode cX4_makePin 63 = .ok (.getfield 34, 3) := by decide +kernel
theorem dX4_makePin_66 : decode cX4_makePin 66 = .ok (.iload_n 3, 1) := by decide +kernel
theorem dX4_makePin_67 : decode cX4_makePin 67 = .ok (.ior, 1) := by decide +kernel
theorem dX4_makePin_68 : decode cX4_makePin 68 = .ok (.putfield 34, 3) := by decide +kernel
theorem dX4_makePin_71 : decode cX4_makePin 71 = .ok (.aload_n 0, 1) := by decide +kernel
theorem dX4_makePin_72 : decode cX4_makePin 72 = .ok (.dup, 1) := by decide +kernel
theorem dX4_makePin_73 : decode cX4_makePin 73 = .ok (.getfield 28, 3) := by decide +kernel
theorem dX4_makePin_76 : decode cX4_makePin 76 = .ok (.iload_n 3, 1) := by decide +kernel
theorem dX4_makePin_77 : decode cX4_makePin 77 = .ok (.iconst (-1), 1) := by decide +kernel
theorem dX4_makePin_78 : decode cX4_makePin 78 = .ok (.ixor, 1) := by decide +kernel
theorem dX4_makePin_79 : decode cX4_makePin 79 = .ok (.iand, 1) := by decide +kernel
theorem dX4_makePin_80 : decode cX4_makePin 80 = .ok (.putfield 28, 3) := by decide +kernel
theorem dX4_makePin_83 : decode cX4_makePin 83 = .ok (.return_, 1) := by decide +kernel
theorem dX4_isAsked_0 : decode cX4_isAsked 0 = .ok (.aload_n 0, 1) := by decide +kernel
theorem dX4_isAsked_1 : decode cX4_isAsked 1 = .ok (.iconst 2, 1) := by decide +kernel
theorem dX4_isAsked_2 : decode cX4_isAsked 2 = .ok (.iload_n 1, 1) := by decide +kernel
theorem dX4_isAsked_3 : decode cX4_isAsked 3 = .ok (.imul, 1) := by decide +kernel
theorem dX4_isAsked_4 : decode cX4_isAsked 4 = .ok (.invokevirtual 68, 3) := by decide +kernel
theorem dX4_isAsked_7 : decode cX4_isAsked 7 = .ok (.ifCond .ne 15, 3) := by decide +kernel
theorem dX4_isAsked_10 : decode cX4_isAsked 10 = .ok (.aload_n 0, 1) := by decide +kernel
theorem dX4_isAsked_11 : decode cX4_isAsked 11 = .ok (.iconst 2, 1) := by decide +kernel
theorem dX4_isAsked_12 : decode cX4_isAsked 12 = .ok (.iload_n 1, 1) := by decide +kernel
theorem dX4_isAsked_13 : decode cX4_isAsked 13 = .ok (.imul, 1) := by decide +kernel
theorem dX4_isAsked_14 : decode cX4_isAsked 14 = .ok (.iconst 1, 1) := by decide +kernel
theorem dX4_isAsked_15 : decode cX4_isAsked 15 = .ok (.iadd, 1) := by decide +kernel
theorem dX4_isAsked_16 : decode cX4_isAsked 16 = .ok (.invokevirtual 68, 3) := by decide +kernel
theorem dX4_isAsked_19 : decode cX4_isAsked 19 = .ok (.ifCond .eq 7, 3) := by decide +kernel
theorem dX4_isAsked_22 : decode cX4_isAsked 22 = .ok (.iconst 1, 1) := by decide +kernel
theorem dX4_isAsked_23 : decode cX4_isAsked 23 = .ok (.goto 4, 3) := by decide +kernel
theorem dX4_isAsked_26 : decode cX4_isAsked 26 = .ok (.iconst 0, 1) := by decide +kernel
theorem dX4_isAsked_27 : decode cX4_isAsked 27 = .ok (.ireturn, 1) := by decide +kernel
theorem dX4_isOut_0 : decode cX4_isOut 0 = .ok (.iload_n 1, 1) := by decide +kernel
theorem dX4_isOut_1 : decode cX4_isOut 1 = .ok (.aload_n 0, 1) := by decide +kernel
theorem dX4_isOut_2 : decode cX4_isOut 2 = .ok (.getfield 43, 3) := by decide +kernel
theorem dX4_isOut_5 : decode cX4_isOut 5 = .ok (.if_icmp .ne 15, 3) := by decide +kernel
theorem dX4_isOut_8 : decode cX4_isOut 8 = .ok (.aload_n 0, 1) := by decide +kernel
theorem dX4_isOut_9 : decode cX4_isOut 9 = .ok (.getfield 50, 3) := by decide +kernel
theorem dX4_isOut_12 : decode cX4_isOut 12 = .ok (.iconst 3, 1) := by decide +kernel
theorem dX4_isOut_13 : decode cX4_isOut 13 = .ok (.if_icmp .lt 7, 3) := by decide +kernel
theorem dX4_isOut_16 : decode cX4_isOut 16 = .ok (.iconst 1, 1) := by decide +kernel
theorem dX4_isOut_17 : decode cX4_isOut 17 = .ok (.goto 4, 3) := by decide +kernel
theorem dX4_isOut_20 : decode cX4_isOut 20 = .ok (.iconst 0, 1) := by decide +kernel
theorem dX4_isOut_21 : decode cX4_isOut 21 = .ok (.ireturn, 1) := by decide +kernel
theorem dX4_isDone_0 : decode cX4_isDone 0 = .ok (.aload_n 0, 1) := by decide +kernel
theorem dX4_isDone_1 : decode cX4_isDone 1 = .ok (.getfield 50, 3) := by decide +kernel
theorem dX4_isDone_4 : decode cX4_isDone 4 = .ok (.ifCond .ne 14, 3) := by decide +kernel
theorem dX4_isDone_7 : decode cX4_isDone 7 = .ok (.aload_n 0, 1) := by decide +kernel
theorem dX4_isDone_8 : decode cX4_isDone 8 = .ok (.getfield 28, 3) := by decide +kernel
theorem dX4_isDone_11 : decode cX4_isDone 11 = .ok (.ifCond .ne 7, 3) := by decide +kernel
theorem dX4_isDone_14 : decode cX4_isDone 14 = .ok (.iconst 1, 1) := by decide +kernel
theorem dX4_isDone_15 : decode cX4_isDone 15 = .ok (.goto 4, 3) := by decide +kernel
theorem dX4_isDone_18 : decode cX4_isDone 18 = .ok (.iconst 0, 1) := by decide +kernel
theorem dX4_isDone_19 : decode cX4_isDone 19 = .ok (.ireturn, 1) := by decide +kernel
theorem dX4_ownSong_0 : decode cX4_ownSong 0 = .ok (.aload_n 0, 1) := by decide +kernel
theorem dX4_ownSong_1 : decode cX4_ownSong 1 = .ok (.getfield 46, 3) := by decide +kernel
theorem dX4_ownSong_4 : decode cX4_ownSong 4 = .ok (.ifCond .eq 12, 3) := by decide +kernel
theorem dX4_ownSong_7 : decode cX4_ownSong 7 = .ok (.iconst 2, 1) := by decide +kernel
theorem dX4_ownSong_8 : decode cX4_ownSong 8 = .ok (.aload_n 0, 1) := by decide +kernel
theorem dX4_ownSong_9 : decode cX4_ownSong 9 = .ok (.getfield 43, 3) := by decide +kernel
theorem dX4_ownSong_12 : decode cX4_ownSong 12 = .ok (.imul, 1) := by decide +kernel
theorem dX4_ownSong_13 : decode cX4_ownSong 13 = .ok (.goto 11, 3) := by decide +kernel
theorem dX4_ownSong_16 : decode cX4_ownSong 16 = .ok (.iconst 2, 1) := by decide +kernel
theorem dX4_ownSong_17 : decode cX4_ownSong 17 = .ok (.aload_n 0, 1) := by decide +kernel
theorem dX4_ownSong_18 : decode cX4_ownSong 18 = .ok (.getfield 43, 3) := by decide +kernel
theorem dX4_ownSong_21 : decode cX4_ownSong 21 = .ok (.imul, 1) := by decide +kernel
theorem dX4_ownSong_22 : decode cX4_ownSong 22 = .ok (.iconst 1, 1) := by decide +kernel
theorem dX4_ownSong_23 : decode cX4_ownSong 23 = .ok (.iadd, 1) := by decide +kernel
theorem dX4_ownSong_24 : decode cX4_ownSong 24 = .ok (.ireturn, 1) := by decide +kernel
theorem dX4_pass_0 : decode cX4_pass 0 = .ok (.aload_n 0, 1) := by decide +kernel
theorem dX4_pass_1 : decode cX4_pass 1 = .ok (.invokevirtual 72, 3) := by decide +kernel
theorem dX4_pass_4 : decode cX4_pass 4 = .ok (.ifCond .eq 15, 3) := by decide +kernel
theorem dX4_pass_7 : decode cX4_pass 7 = .ok (.aload_n 0, 1) := by decide +kernel
theorem dX4_pass_8 : decode cX4_pass 8 = .ok (.dup, 1) := by decide +kernel
theorem dX4_pass_9 : decode cX4_pass 9 = .ok (.getfield 40, 3) := by decide +kernel
theorem dX4_pass_12 : decode cX4_pass 12 = .ok (.iload_n 1, 1) := by decide +kernel
theorem dX4_pass_13 : decode cX4_pass 13 = .ok (.iadd, 1) := by decide +kernel
theorem dX4_pass_14 : decode cX4_pass 14 = .ok (.putfield 40, 3) := by decide +kernel
theorem dX4_pass_17 : decode cX4_pass 17 = .ok (.iload_n 1, 1) := by decide +kernel
theorem dX4_pass_18 : decode cX4_pass 18 = .ok (.ireturn, 1) := by decide +kernel
theorem dX4_pass_19 : decode cX4_pass 19 = .ok (.aload_n 0, 1) := by decide +kernel
theorem dX4_pass_20 : decode cX4_pass 20 = .ok (.getfield 50, 3) := by decide +kernel
theorem dX4_pass_23 : decode cX4_pass 23 = .ok (.ifCond .ne 19, 3) := by decide +kernel
theorem dX4_pass_26 : decode cX4_pass 26 = .ok (.aload_n 0, 1) := by decide +kernel
theorem dX4_pass_27 : decode cX4_pass 27 = .ok (.dup, 1) := by decide +kernel
theorem dX4_pass_28 : decode cX4_pass 28 = .ok (.getfield 40, 3) := by decide +kernel
theorem dX4_pass_31 : decode cX4_pass 31 = .ok (.iconst 1, 1) := by decide +kernel
theorem dX4_pass_32 : decode cX4_pass 32 = .ok (.iadd, 1) := by decide +kernel
theorem dX4_pass_33 : decode cX4_pass 33 = .ok (.putfield 40, 3) := by decide +kernel
theorem dX4_pass_36 : decode cX4_pass 36 = .ok (.aload_n 0, 1) := by decide +kernel
theorem dX4_pass_37 : decode cX4_pass 37 = .ok (.invokevirtual 76, 3) := by decide +kernel
theorem dX4_pass_40 : decode cX4_pass 40 = .ok (.iconst 1, 1) := by decide +kernel
theorem dX4_pass_41 : decode cX4_pass 41 = .ok (.ireturn, 1) := by decide +kernel
theorem dX4_pass_42 : decode cX4_pass 42 = .ok (.iload_n 1, 1) := by decide +kernel
theorem dX4_pass_43 : decode cX4_pass 43 = .ok (.aload_n 0, 1) := by decide +kernel
theorem dX4_pass_44 : decode cX4_pass 44 = .ok (.getfield 53, 3) := by decide +kernel
theorem dX4_pass_47 : decode cX4_pass 47 = .ok (.invokestatic 79, 3) := by decide +kernel
theorem dX4_pass_50 : decode cX4_pass 50 = .ok (.istore_n 2, 1) := by decide +kernel
theorem dX4_pass_51 : decode cX4_pass 51 = .ok (.aload_n 0, 1) := by decide +kernel
theorem dX4_pass_52 : decode cX4_pass 52 = .ok (.dup, 1) := by decide +kernel
theorem dX4_pass_53 : decode cX4_pass 53 = .ok (.getfield 40, 3) := by decide +kernel
theorem dX4_pass_56 : decode cX4_pass 56 = .ok (.iload_n 2, 1) := by decide +kernel
theorem dX4_pass_57 : decode cX4_pass 57 = .ok (.iadd, 1) := by decide +kernel
theorem dX4_pass_58 : decode cX4_pass 58 = .ok (.putfield 40, 3) := by decide +kernel
theorem dX4_pass_61 : decode cX4_pass 61 = .ok (.aload_n 0, 1) := by decide +kernel
theorem dX4_pass_62 : decode cX4_pass 62 = .ok (.dup, 1) := by decide +kernel
theorem dX4_pass_63 : decode cX4_pass 63 = .ok (.getfield 53, 3) := by decide +kernel
theorem dX4_pass_66 : decode cX4_pass 66 = .ok (.iload_n 2, 1) := by decide +kernel
theorem dX4_pass_67 : decode cX4_pass 67 = .ok (.isub, 1) := by decide +kernel
theorem dX4_pass_68 : decode cX4_pass 68 = .ok (.putfield 53, 3) := by decide +kernel
theorem dX4_pass_71 : decode cX4_pass 71 = .ok (.aload_n 0, 1) := by decide +kernel
theorem dX4_pass_72 : decode cX4_pass 72 = .ok (.getfield 53, 3) := by decide +kernel
theorem dX4_pass_75 : decode cX4_pass 75 = .ok (.ifCond .ne 7, 3) := by decide +kernel
theorem dX4_pass_78 : decode cX4_pass 78 = .ok (.aload_n 0, 1) := by decide +kernel
theorem dX4_pass_79 : decode cX4_pass 79 = .ok (.invokevirtual 85, 3) := by decide +kernel
theorem dX4_pass_82 : decode cX4_pass 82 = .ok (.iload_n 2, 1) := by decide +kernel
theorem dX4_pass_83 : decode cX4_pass 83 = .ok (.ireturn, 1) := by decide +kernel
theorem dX4_endStep_0 : decode cX4_endStep 0 = .ok (.aload_n 0, 1) := by decide +kernel
theorem dX4_endStep_1 : decode cX4_endStep 1 = .ok (.getfield 50, 3) := by decide +kernel
theorem dX4_endStep_4 : decode cX4_endStep 4 = .ok (.tableswitch 117 1 4 #[32, 74, 97, 104], 32) := by decide +kernel
theorem dX4_endStep_36 : decode cX4_endStep 36 = .ok (.aload_n 0, 1) := by decide +kernel
theorem dX4_endStep_37 : decode cX4_endStep 37 = .ok (.aload_n 0, 1) := by decide +kernel
theorem dX4_endStep_38 : decode cX4_endStep 38 = .ok (.getfield 46, 3) := by decide +kernel
theorem dX4_endStep_41 : decode cX4_endStep 41 = .ok (.ifCond .eq 17, 3) := by decide +kernel
theorem dX4_endStep_44 : decode cX4_endStep 44 = .ok (.aload_n 0, 1) := by decide +kernel
theorem dX4_endStep_45 : decode cX4_endStep 45 = .ok (.getfield 43, 3) := by decide +kernel
theorem dX4_endStep_48 : decode cX4_endStep 48 = .ok (.iconst 1, 1) := by decide +kernel
theorem dX4_endStep_49 : decode cX4_endStep 49 = .ok (.iadd, 1) := by decide +kernel
theorem dX4_endStep_50 : decode cX4_endStep 50 = .ok (.bipush 9, 2) := by decide +kernel
theorem dX4_endStep_52 : decode cX4_endStep 52 = .ok (.invokestatic 79, 3) := by decide +kernel
theorem dX4_endStep_55 : decode cX4_endStep 55 = .ok (.goto 13, 3) := by decide +kernel
theorem dX4_endStep_58 : decode cX4_endStep 58 = .ok (.aload_n 0, 1) := by decide +kernel
theorem dX4_endStep_59 : decode cX4_endStep 59 = .ok (.getfield 43, 3) := by decide +kernel
theorem dX4_endStep_62 : decode cX4_endStep 62 = .ok (.iconst 1, 1) := by decide +kernel
theorem dX4_endStep_63 : decode cX4_endStep 63 = .ok (.isub, 1) := by decide +kernel
theorem dX4_endStep_64 : decode cX4_endStep 64 = .ok (.iconst 0, 1) := by decide +kernel
theorem dX4_endStep_65 : decode cX4_endStep 65 = .ok (.invokestatic 88, 3) := by decide +kernel
theorem dX4_endStep_68 : decode cX4_endStep 68 = .ok (.putfield 43, 3) := by decide +kernel
theorem dX4_endStep_71 : decode cX4_endStep 71 = .ok (.aload_n 0, 1) := by decide +kernel
theorem dX4_endStep_72 : decode cX4_endStep 72 = .ok (.invokevirtual 76, 3) := by decide +kernel
theorem dX4_endStep_75 : decode cX4_endStep 75 = .ok (.goto 50, 3) := by decide +kernel
theorem dX4_endStep_78 : decode cX4_endStep 78 = .ok (.aload_n 0, 1) := by decide +kernel
theorem dX4_endStep_79 : decode cX4_endStep 79 = .ok (.aload_n 0, 1) := by decide +kernel
theorem dX4_endStep_80 : decode cX4_endStep 80 = .ok (.getfield 46, 3) := by decide +kernel
theorem dX4_endStep_83 : decode cX4_endStep 83 = .ok (.ifCond .ne 7, 3) := by decide +kernel
theorem dX4_endStep_86 : decode cX4_endStep 86 = .ok (.iconst 1, 1) := by decide +kernel
theorem dX4_endStep_87 : decode cX4_endStep 87 = .ok (.goto 4, 3) := by decide +kernel
theorem dX4_endStep_90 : decode cX4_endStep 90 = .ok (.iconst 0, 1) := by decide +kernel
theorem dX4_endStep_91 : decode cX4_endStep 91 = .ok (.putfield 46, 3) := by decide +kernel
theorem dX4_endStep_94 : decode cX4_endStep 94 = .ok (.aload_n 0, 1) := by decide +kernel
theorem dX4_endStep_95 : decode cX4_endStep 95 = .ok (.invokevirtual 76, 3) := by decide +kernel
theorem dX4_endStep_98 : decode cX4_endStep 98 = .ok (.goto 27, 3) := by decide +kernel
theorem dX4_endStep_101 : decode cX4_endStep 101 = .ok (.aload_n 0, 1) := by decide +kernel
theorem dX4_endStep_102 : decode cX4_endStep 102 = .ok (.invokevirtual 91, 3) := by decide +kernel
theorem dX4_endStep_105 : decode cX4_endStep 105 = .ok (.goto 20, 3) := by decide +kernel
theorem dX4_endStep_108 : decode cX4_endStep 108 = .ok (.aload_n 0, 1) := by decide +kernel
theorem dX4_endStep_109 : decode cX4_endStep 109 = .ok (.iconst 5, 1) := by decide +kernel
theorem dX4_endStep_110 : decode cX4_endStep 110 = .ok (.putfield 50, 3) := by decide +kernel
theorem dX4_endStep_113 : decode cX4_endStep 113 = .ok (.aload_n 0, 1) := by decide +kernel
theorem dX4_endStep_114 : decode cX4_endStep 114 = .ok (.iconst 4, 1) := by decide +kernel
theorem dX4_endStep_115 : decode cX4_endStep 115 = .ok (.putfield 53, 3) := by decide +kernel
theorem dX4_endStep_118 : decode cX4_endStep 118 = .ok (.goto 7, 3) := by decide +kernel
theorem dX4_endStep_121 : decode cX4_endStep 121 = .ok (.aload_n 0, 1) := by decide +kernel
theorem dX4_endStep_122 : decode cX4_endStep 122 = .ok (.invokevirtual 94, 3) := by decide +kernel
theorem dX4_endStep_125 : decode cX4_endStep 125 = .ok (.return_, 1) := by decide +kernel
theorem dX4_look_0 : decode cX4_look 0 = .ok (.iconst 1, 1) := by decide +kernel
theorem dX4_look_1 : decode cX4_look 1 = .ok (.aload_n 0, 1) := by decide +kernel
theorem dX4_look_2 : decode cX4_look 2 = .ok (.invokevirtual 97, 3) := by decide +kernel
theorem dX4_look_5 : decode cX4_look 5 = .ok (.ishl, 1) := by decide +kernel
theorem dX4_look_6 : decode cX4_look 6 = .ok (.istore_n 1, 1) := by decide +kernel
theorem dX4_look_7 : decode cX4_look 7 = .ok (.aload_n 0, 1) := by decide +kernel
theorem dX4_look_8 : decode cX4_look 8 = .ok (.getfield 28, 3) := by decide +kernel
theorem dX4_look_11 : decode cX4_look 11 = .ok (.iload_n 1, 1) := by decide +kernel
theorem dX4_look_12 : decode cX4_look 12 = .ok (.iand, 1) := by decide +kernel
theorem dX4_look_13 : decode cX4_look 13 = .ok (.ifCond .ne 8, 3) := by decide +kernel
theorem dX4_look_16 : decode cX4_look 16 = .ok (.aload_n 0, 1) := by decide +kernel
theorem dX4_look_17 : decode cX4_look 17 = .ok (.invokevirtual 94, 3) := by decide +kernel
theorem dX4_look_20 : decode cX4_look 20 = .ok (.return_, 1) := by decide +kernel
theorem dX4_look_21 : decode cX4_look 21 = .ok (.aload_n 0, 1) := by decide +kernel
theorem dX4_look_22 : decode cX4_look 22 = .ok (.dup, 1) := by decide +kernel
theorem dX4_look_23 : decode cX4_look 23 = .ok (.getfield 28, 3) := by decide +kernel
theorem dX4_look_26 : decode cX4_look 26 = .ok (.iload_n 1, 1) := by decide +kernel
theorem dX4_look_27 : decode cX4_look 27 = .ok (.iconst (-1), 1) := by decide +kernel
theorem dX4_look_28 : decode cX4_look 28 = .ok (.ixor, 1) := by decide +kernel
theorem dX4_look_29 : decode cX4_look 29 = .ok (.aload_n 0, 1) := by decide +kernel
theorem dX4_look_30 : decode cX4_look 30 = .ok (.getfield 31, 3) := by decide +kernel
theorem dX4_look_33 : decode cX4_look 33 = .ok (.ior, 1) := by decide +kernel
theorem dX4_look_34 : decode cX4_look 34 = .ok (.iand, 1) := by decide +kernel
theorem dX4_look_35 : decode cX4_look 35 = .ok (.putfield 28, 3) := by decide +kernel
theorem dX4_look_38 : decode cX4_look 38 = .ok (.aload_n 0, 1) := by decide +kernel
theorem dX4_look_39 : decode cX4_look 39 = .ok (.getfield 22, 3) := by decide +kernel
theorem dX4_look_42 : decode cX4_look 42 = .ok (.aload_n 0, 1) := by decide +kernel
theorem dX4_look_43 : decode cX4_look 43 = .ok (.getfield 43, 3) := by decide +kernel
theorem dX4_look_46 : decode cX4_look 46 = .ok (.iaload, 1) := by decide +kernel
theorem dX4_look_47 : decode cX4_look 47 = .ok (.bipush (-4), 2) := by decide +kernel
theorem dX4_look_49 : decode cX4_look 49 = .ok (.if_icmp .ne 20, 3) := by decide +kernel
theorem dX4_look_52 : decode cX4_look 52 = .ok (.aload_n 0, 1) := by decide +kernel
theorem dX4_look_53 : decode cX4_look 53 = .ok (.dup, 1) := by decide +kernel
theorem dX4_look_54 : decode cX4_look 54 = .ok (.getfield 59, 3) := by decide +kernel
theorem dX4_look_57 : decode cX4_look 57 = .ok (.iconst 1, 1) := by decide +kernel
theorem dX4_look_58 : decode cX4_look 58 = .ok (.iadd, 1) := by decide +kernel
theorem dX4_look_59 : decode cX4_look 59 = .ok (.putfield 59, 3) := by decide +kernel
theorem dX4_look_62 : decode cX4_look 62 = .ok (.aload_n 0, 1) := by decide +kernel
theorem dX4_look_63 : decode cX4_look 63 = .ok (.invokevirtual 94, 3) := by decide +kernel
theorem dX4_look_66 : decode cX4_look 66 = .ok (.goto 13, 3) := by decide +kernel
theorem dX4_look_69 : decode cX4_look 69 = .ok (.aload_n 0, 1) := by decide +kernel
theorem dX4_look_70 : decode cX4_look 70 = .ok (.iconst 3, 1) := by decide +kernel
theorem dX4_look_71 : decode cX4_look 71 = .ok (.putfield 50, 3) := by decide +kernel
theorem dX4_look_74 : decode cX4_look 74 = .ok (.aload_n 0, 1) := by decide +kernel
theorem dX4_look_75 : decode cX4_look 75 = .ok (.iconst 4, 1) := by decide +kernel
theorem dX4_look_76 : decode cX4_look 76 = .ok (.putfield 53, 3) := by decide +kernel
theorem dX4_look_79 : decode cX4_look 79 = .ok (.return_, 1) := by decide +kernel
theorem dX4_goOn_0 : decode cX4_goOn 0 = .ok (.aload_n 0, 1) := by decide +kernel
theorem dX4_goOn_1 : decode cX4_goOn 1 = .ok (.getfield 43, 3) := by decide +kernel
theorem dX4_goOn_4 : decode cX4_goOn 4 = .ok (.aload_n 0, 1) := by decide +kernel
theorem dX4_goOn_5 : decode cX4_goOn 5 = .ok (.getfield 46, 3) := by decide +kernel
theorem dX4_goOn_8 : decode cX4_goOn 8 = .ok (.ifCond .eq 8, 3) := by decide +kernel
theorem dX4_goOn_11 : decode cX4_goOn 11 = .ok (.bipush 9, 2) := by decide +kernel
theorem dX4_goOn_13 : decode cX4_goOn 13 = .ok (.goto 4, 3) := by decide +kernel
theorem dX4_goOn_16 : decode cX4_goOn 16 = .ok (.iconst 0, 1) := by decide +kernel
theorem dX4_goOn_17 : decode cX4_goOn 17 = .ok (.if_icmp .ne 7, 3) := by decide +kernel
theorem dX4_goOn_20 : decode cX4_goOn 20 = .ok (.iconst 1, 1) := by decide +kernel
theorem dX4_goOn_21 : decode cX4_goOn 21 = .ok (.goto 4, 3) := by decide +kernel
theorem dX4_goOn_24 : decode cX4_goOn 24 = .ok (.iconst 0, 1) := by decide +kernel
theorem dX4_goOn_25 : decode cX4_goOn 25 = .ok (.istore_n 1, 1) := by decide +kernel
theorem dX4_goOn_26 : decode cX4_goOn 26 = .ok (.aload_n 0, 1) := by decide +kernel
theorem dX4_goOn_27 : decode cX4_goOn 27 = .ok (.getfield 28, 3) := by decide +kernel
theorem dX4_goOn_30 : decode cX4_goOn 30 = .ok (.ifCond .ne 16, 3) := by decide +kernel
theorem dX4_goOn_33 : decode cX4_goOn 33 = .ok (.aload_n 0, 1) := by decide +kernel
theorem dX4_goOn_34 : decode cX4_goOn 34 = .ok (.iconst 0, 1) := by decide +kernel
theorem dX4_goOn_35 : decode cX4_goOn 35 = .ok (.putfield 50, 3) := by decide +kernel
theorem dX4_goOn_38 : decode cX4_goOn 38 = .ok (.aload_n 0, 1) := by decide +kernel
theorem dX4_goOn_39 : decode cX4_goOn 39 = .ok (.iconst 0, 1) := by decide +kernel
theorem dX4_goOn_40 : decode cX4_goOn 40 = .ok (.putfield 53, 3) := by decide +kernel
theorem dX4_goOn_43 : decode cX4_goOn 43 = .ok (.goto 29, 3) := by decide +kernel
theorem dX4_goOn_46 : decode cX4_goOn 46 = .ok (.aload_n 0, 1) := by decide +kernel
theorem dX4_goOn_47 : decode cX4_goOn 47 = .ok (.iload_n 1, 1) := by decide +kernel
theorem dX4_goOn_48 : decode cX4_goOn 48 = .ok (.ifCond .eq 7, 3) := by decide +kernel
theorem dX4_goOn_51 : decode cX4_goOn 51 = .ok (.iconst 2, 1) := by decide +kernel
theorem dX4_goOn_52 : decode cX4_goOn 52 = .ok (.goto 4, 3) := by decide +kernel
theorem dX4_goOn_55 : decode cX4_goOn 55 = .ok (.iconst 1, 1) := by decide +kernel
theorem dX4_goOn_56 : decode cX4_goOn 56 = .ok (.putfield 50, 3) := by decide +kernel
theorem dX4_goOn_59 : decode cX4_goOn 59 = .ok (.aload_n 0, 1) := by decide +kernel
theorem dX4_goOn_60 : decode cX4_goOn 60 = .ok (.iload_n 1, 1) := by decide +kernel
theorem dX4_goOn_61 : decode cX4_goOn 61 = .ok (.ifCond .eq 7, 3) := by decide +kernel
theorem dX4_goOn_64 : decode cX4_goOn 64 = .ok (.iconst 2, 1) := by decide +kernel
theorem dX4_goOn_65 : decode cX4_goOn 65 = .ok (.goto 4, 3) := by decide +kernel
theorem dX4_goOn_68 : decode cX4_goOn 68 = .ok (.iconst 3, 1) := by decide +kernel
theorem dX4_goOn_69 : decode cX4_goOn 69 = .ok (.putfield 53, 3) := by decide +kernel
theorem dX4_goOn_72 : decode cX4_goOn 72 = .ok (.return_, 1) := by decide +kernel
theorem dX4_play_0 : decode cX4_play 0 = .ok (.aload_n 0, 1) := by decide +kernel
theorem dX4_play_1 : decode cX4_play 1 = .ok (.getfield 22, 3) := by decide +kernel
theorem dX4_play_4 : decode cX4_play 4 = .ok (.aload_n 0, 1) := by decide +kernel
theorem dX4_play_5 : decode cX4_play 5 = .ok (.getfield 43, 3) := by decide +kernel
theorem dX4_play_8 : decode cX4_play 8 = .ok (.iaload, 1) := by decide +kernel
theorem dX4_play_9 : decode cX4_play 9 = .ok (.istore_n 1, 1) := by decide +kernel
theorem dX4_play_10 : decode cX4_play 10 = .ok (.iload_n 1, 1) := by decide +kernel
theorem dX4_play_11 : decode cX4_play 11 = .ok (.iconst 0, 1) := by decide +kernel
theorem dX4_play_12 : decode cX4_play 12 = .ok (.bipush 15, 2) := by decide +kernel
theorem dX4_play_14 : decode cX4_play 14 = .ok (.invokestatic 101, 3) := by decide +kernel
theorem dX4_play_17 : decode cX4_play 17 = .ok (.ifCond .ne 8, 3) := by decide +kernel
theorem dX4_play_20 : decode cX4_play 20 = .ok (.aload_n 0, 1) := by decide +kernel
theorem dX4_play_21 : decode cX4_play 21 = .ok (.invokevirtual 94, 3) := by decide +kernel
theorem dX4_play_24 : decode cX4_play 24 = .ok (.return_, 1) := by decide +kernel
theorem dX4_play_25 : decode cX4_play 25 = .ok (.aload_n 0, 1) := by decide +kernel
theorem dX4_play_26 : decode cX4_play 26 = .ok (.getfield 46, 3) := by decide +kernel
theorem dX4_play_29 : decode cX4_play 29 = .ok (.ifCond .eq 9, 3) := by decide +kernel
theorem dX4_play_32 : decode cX4_play 32 = .ok (.iconst 2, 1) := by decide +kernel
theorem dX4_play_33 : decode cX4_play 33 = .ok (.iload_n 1, 1) := by decide +kernel
theorem dX4_play_34 : decode cX4_play 34 = .ok (.imul, 1) := by decide +kernel
theorem dX4_play_35 : decode cX4_play 35 = .ok (.goto 8, 3) := by decide +kernel
theorem dX4_play_38 : decode cX4_play 38 = .ok (.iconst 2, 1) := by decide +kernel
theorem dX4_play_39 : decode cX4_play 39 = .ok (.iload_n 1, 1) := by decide +kernel
theorem dX4_play_40 : decode cX4_play 40 = .ok (.imul, 1) := by decide +kernel
theorem dX4_play_41 : decode cX4_play 41 = .ok (.iconst 1, 1) := by decide +kernel
theorem dX4_play_42 : decode cX4_play 42 = .ok (.iadd, 1) := by decide +kernel
theorem dX4_play_43 : decode cX4_play 43 = .ok (.istore_n 2, 1) := by decide +kernel
theorem dX4_play_44 : decode cX4_play 44 = .ok (.aload_n 0, 1) := by decide +kernel
theorem dX4_play_45 : decode cX4_play 45 = .ok (.invokevirtual 97, 3) := by decide +kernel
theorem dX4_play_48 : decode cX4_play 48 = .ok (.istore_n 3, 1) := by decide +kernel
theorem dX4_play_49 : decode cX4_play 49 = .ok (.aload_n 0, 1) := by decide +kernel
theorem dX4_play_50 : decode cX4_play 50 = .ok (.getfield 25, 3) := by decide +kernel
theorem dX4_play_53 : decode cX4_play 53 = .ok (.iload_n 3, 1) := by decide +kernel
theorem dX4_play_54 : decode cX4_play 54 = .ok (.aload_n 0, 1) := by decide +kernel
theorem dX4_play_55 : decode cX4_play 55 = .ok (.getfield 25, 3) := by decide +kernel
theorem dX4_play_58 : decode cX4_play 58 = .ok (.iload_n 3, 1) := by decide +kernel
theorem dX4_play_59 : decode cX4_play 59 = .ok (.iaload, 1) := by decide +kernel
theorem dX4_play_60 : decode cX4_play 60 = .ok (.iconst 1, 1) := by decide +kernel
theorem dX4_play_61 : decode cX4_play 61 = .ok (.iadd, 1) := by decide +kernel
theorem dX4_play_62 : decode cX4_play 62 = .ok (.bipush 100, 2) := by decide +kernel
theorem dX4_play_64 : decode cX4_play 64 = .ok (.irem, 1) := by decide +kernel
theorem dX4_play_65 : decode cX4_play 65 = .ok (.iastore, 1) := by decide +kernel
theorem dX4_play_66 : decode cX4_play 66 = .ok (.aload_n 0, 1) := by decide +kernel
theorem dX4_play_67 : decode cX4_play 67 = .ok (.getfield 19, 3) := by decide +kernel
theorem dX4_play_70 : decode cX4_play 70 = .ok (.iload_n 2, 1) := by decide +kernel
theorem dX4_play_71 : decode cX4_play 71 = .ok (.aload_n 0, 1) := by decide +kernel
theorem dX4_play_72 : decode cX4_play 72 = .ok (.getfield 19, 3) := by decide +kernel
theorem dX4_play_75 : decode cX4_play 75 = .ok (.iload_n 2, 1) := by decide +kernel
theorem dX4_play_76 : decode cX4_play 76 = .ok (.iaload, 1) := by decide +kernel
theorem dX4_play_77 : decode cX4_play 77 = .ok (.iconst 1, 1) := by decide +kernel
theorem dX4_play_78 : decode cX4_play 78 = .ok (.iadd, 1) := by decide +kernel
theorem dX4_play_79 : decode cX4_play 79 = .ok (.bipush 99, 2) := by decide +kernel
theorem dX4_play_81 : decode cX4_play 81 = .ok (.invokestatic 79, 3) := by decide +kernel
theorem dX4_play_84 : decode cX4_play 84 = .ok (.iastore, 1) := by decide +kernel
theorem dX4_play_85 : decode cX4_play 85 = .ok (.aload_n 0, 1) := by decide +kernel
theorem dX4_play_86 : decode cX4_play 86 = .ok (.dup, 1) := by decide +kernel
theorem dX4_play_87 : decode cX4_play 87 = .ok (.getfield 56, 3) := by decide +kernel
theorem dX4_play_90 : decode cX4_play 90 = .ok (.iconst 1, 1) := by decide +kernel
theorem dX4_play_91 : decode cX4_play 91 = .ok (.iadd, 1) := by decide +kernel
theorem dX4_play_92 : decode cX4_play 92 = .ok (.putfield 56, 3) := by decide +kernel
theorem dX4_play_95 : decode cX4_play 95 = .ok (.aload_n 0, 1) := by decide +kernel
theorem dX4_play_96 : decode cX4_play 96 = .ok (.iconst 4, 1) := by decide +kernel
theorem dX4_play_97 : decode cX4_play 97 = .ok (.putfield 50, 3) := by decide +kernel
theorem dX4_play_100 : decode cX4_play 100 = .ok (.aload_n 0, 1) := by decide +kernel
theorem dX4_play_101 : decode cX4_play 101 = .ok (.aload_n 0, 1) := by decide +kernel
theorem dX4_play_102 : decode cX4_play 102 = .ok (.getfield 19, 3) := by decide +kernel
theorem dX4_play_105 : decode cX4_play 105 = .ok (.iload_n 2, 1) := by decide +kernel
theorem dX4_play_106 : decode cX4_play 106 = .ok (.iaload, 1) := by decide +kernel
theorem dX4_play_107 : decode cX4_play 107 = .ok (.aload_n 0, 1) := by decide +kernel
theorem dX4_play_108 : decode cX4_play 108 = .ok (.getfield 37, 3) := by decide +kernel
theorem dX4_play_111 : decode cX4_play 111 = .ok (.if_icmp .le 14, 3) := by decide +kernel
theorem dX4_play_114 : decode cX4_play 114 = .ok (.iconst 2, 1) := by decide +kernel
theorem dX4_play_115 : decode cX4_play 115 = .ok (.aload_n 0, 1) := by decide +kernel
theorem dX4_play_116 : decode cX4_play 116 = .ok (.getfield 15, 3) := by decide +kernel
theorem dX4_play_119 : decode cX4_play 119 = .ok (.iload_n 2, 1) := by decide +kernel
theorem dX4_play_120 : decode cX4_play 120 = .ok (.iaload, 1) := by decide +kernel
theorem dX4_play_121 : decode cX4_play 121 = .ok (.imul, 1) := by decide +kernel
theorem dX4_play_122 : decode cX4_play 122 = .ok (.goto 9, 3) := by decide +kernel
theorem dX4_play_125 : decode cX4_play 125 = .ok (.aload_n 0, 1) := by decide +kernel
theorem dX4_play_126 : decode cX4_play 126 = .ok (.getfield 15, 3) := by decide +kernel
theorem dX4_play_129 : decode cX4_play 129 = .ok (.iload_n 2, 1) := by decide +kernel
theorem dX4_play_130 : decode cX4_play 130 = .ok (.iaload, 1) := by decide +kernel
theorem dX4_play_131 : decode cX4_play 131 = .ok (.putfield 53, 3) := by decide +kernel
theorem dX4_play_134 : decode cX4_play 134 = .ok (.return_, 1) := by decide +kernel
theorem dX5_init_0 : decode cX5_init 0 = .ok (.aload_n 0, 1) := by decide +kernel
theorem dX5_init_1 : decode cX5_init 1 = .ok (.invokespecial 3, 3) := by decide +kernel
theorem dX5_init_4 : decode cX5_init 4 = .ok (.aload_n 0, 1) := by decide +kernel
theorem dX5_init_5 : decode cX5_init 5 = .ok (.new 9, 3) := by decide +kernel
theorem dX5_init_8 : decode cX5_init 8 = .ok (.dup, 1) := by decide +kernel
theorem dX5_init_9 : decode cX5_init 9 = .ok (.invokespecial 11, 3) := by decide +kernel
theorem dX5_init_12 : decode cX5_init 12 = .ok (.putfield 12, 3) := by decide +kernel
theorem dX5_init_15 : decode cX5_init 15 = .ok (.aload_n 0, 1) := by decide +kernel
theorem dX5_init_16 : decode cX5_init 16 = .ok (.new 16, 3) := by decide +kernel
theorem dX5_init_19 : decode cX5_init 19 = .ok (.dup, 1) := by decide +kernel
theorem dX5_init_20 : decode cX5_init 20 = .ok (.invokespecial 18, 3) := by decide +kernel
theorem dX5_init_23 : decode cX5_init 23 = .ok (.putfield 19, 3) := by decide +kernel
theorem dX5_init_26 : decode cX5_init 26 = .ok (.aload_n 0, 1) := by decide +kernel
theorem dX5_init_27 : decode cX5_init 27 = .ok (.new 9, 3) := by decide +kernel
theorem dX5_init_30 : decode cX5_init 30 = .ok (.dup, 1) := by decide +kernel
theorem dX5_init_31 : decode cX5_init 31 = .ok (.invokespecial 11, 3) := by decide +kernel
theorem dX5_init_34 : decode cX5_init 34 = .ok (.putfield 23, 3) := by decide +kernel
theorem dX5_init_37 : decode cX5_init 37 = .ok (.aload_n 0, 1) := by decide +kernel
theorem dX5_init_38 : decode cX5_init 38 = .ok (.new 16, 3) := by decide +kernel
theorem dX5_init_41 : decode cX5_init 41 = .ok (.dup, 1) := by decide +kernel
theorem dX5_init_42 : decode cX5_init 42 = .ok (.invokespecial 18, 3) := by decide +kernel
theorem dX5_init_45 : decode cX5_init 45 = .ok (.putfield 26, 3) := by decide +kernel
theorem dX5_init_48 : decode cX5_init 48 = .ok (.aload_n 0, 1) := by decide +kernel
theorem dX5_init_49 : decode cX5_init 49 = .ok (.iconst 0, 1) := by decide +kernel
theorem dX5_init_50 : decode cX5_init 50 = .ok (.putfield 29, 3) := by decide +kernel
theorem dX5_init_53 : decode cX5_init 53 = .ok (.aload_n 0, 1) := by decide +kernel
theorem dX5_init_54 : decode cX5_init 54 = .ok (.new 33, 3) := by decide +kernel
theorem dX5_init_57 : decode cX5_init 57 = .ok (.dup, 1) := by decide +kernel
theorem dX5_init_58 : decode cX5_init 58 = .ok (.invokespecial 35, 3) := by decide +kernel
theorem dX5_init_61 : decode cX5_init 61 = .ok (.putfield 36, 3) := by decide +kernel
theorem dX5_init_64 : decode cX5_init 64 = .ok (.aload_n 0, 1) := by decide +kernel
theorem dX5_init_65 : decode cX5_init 65 = .ok (.new 40, 3) := by decide +kernel
theorem dX5_init_68 : decode cX5_init 68 = .ok (.dup, 1) := by decide +kernel
theorem dX5_init_69 : decode cX5_init 69 = .ok (.invokespecial 42, 3) := by decide +kernel
theorem dX5_init_72 : decode cX5_init 72 = .ok (.putfield 43, 3) := by decide +kernel
theorem dX5_init_75 : decode cX5_init 75 = .ok (.aload_n 0, 1) := by decide +kernel
theorem dX5_init_76 : decode cX5_init 76 = .ok (.iconst 4, 1) := by decide +kernel
theorem dX5_init_77 : decode cX5_init 77 = .ok (.anewarray 47, 3) := by decide +kernel
theorem dX5_init_80 : decode cX5_init 80 = .ok (.putfield 49, 3) := by decide +kernel
theorem dX5_init_83 : decode cX5_init 83 = .ok (.iconst 0, 1) := by decide +kernel
theorem dX5_init_84 : decode cX5_init 84 = .ok (.istore_n 1, 1) := by decide +kernel
theorem dX5_init_85 : decode cX5_init 85 = .ok (.iload_n 1, 1) := by decide +kernel
theorem dX5_init_86 : decode cX5_init 86 = .ok (.iconst 4, 1) := by decide +kernel
theorem dX5_init_87 : decode cX5_init 87 = .ok (.if_icmp .ge 22, 3) := by decide +kernel
theorem dX5_init_90 : decode cX5_init 90 = .ok (.aload_n 0, 1) := by decide +kernel
theorem dX5_init_91 : decode cX5_init 91 = .ok (.getfield 49, 3) := by decide +kernel
theorem dX5_init_94 : decode cX5_init 94 = .ok (.iload_n 1, 1) := by decide +kernel
theorem dX5_init_95 : decode cX5_init 95 = .ok (.new 47, 3) := by decide +kernel
theorem dX5_init_98 : decode cX5_init 98 = .ok (.dup, 1) := by decide +kernel
theorem dX5_init_99 : decode cX5_init 99 = .ok (.invokespecial 53, 3) := by decide +kernel
theorem dX5_init_102 : decode cX5_init 102 = .ok (.aastore, 1) := by decide +kernel
theorem dX5_init_103 : decode cX5_init 103 = .ok (.iinc 1 1, 3) := by decide +kernel
theorem dX5_init_106 : decode cX5_init 106 = .ok (.goto (-21), 3) := by decide +kernel
theorem dX5_init_109 : decode cX5_init 109 = .ok (.return_, 1) := by decide +kernel
theorem dX5_within_0 : decode cX5_within 0 = .ok (.iload_n 0, 1) := by decide +kernel
theorem dX5_within_1 : decode cX5_within 1 = .ok (.iload_n 1, 1) := by decide +kernel
theorem dX5_within_2 : decode cX5_within 2 = .ok (.if_icmp .lt 12, 3) := by decide +kernel
theorem dX5_within_5 : decode cX5_within 5 = .ok (.iload_n 0, 1) := by decide +kernel
theorem dX5_within_6 : decode cX5_within 6 = .ok (.iload_n 2, 1) := by decide +kernel
theorem dX5_within_7 : decode cX5_within 7 = .ok (.if_icmp .gt 7, 3) := by decide +kernel
theorem dX5_within_10 : decode cX5_within 10 = .ok (.iconst 1, 1) := by decide +kernel
theorem dX5_within_11 : decode cX5_within 11 = .ok (.goto 4, 3) := by decide +kernel
theorem dX5_within_14 : decode cX5_within 14 = .ok (.iconst 0, 1) := by decide +kernel
theorem dX5_within_15 : decode cX5_within 15 = .ok (.ireturn, 1) := by decide +kernel
theorem dX5_record_0 : decode cX5_record 0 = .ok (.iload_n 1, 1) := by decide +kernel
theorem dX5_record_1 : decode cX5_record 1 = .ok (.iconst 1, 1) := by decide +kernel
theorem dX5_record_2 : decode cX5_record 2 = .ok (.bipush 60, 2) := by decide +kernel
theorem dX5_record_4 : decode cX5_record 4 = .ok (.invokestatic 54, 3) := by decide +kernel
theorem dX5_record_7 : decode cX5_record 7 = .ok (.ifCond .eq 13, 3) := by decide +kernel
theorem dX5_record_10 : decode cX5_record 10 = .ok (.iload_n 2, 1) := by decide +kernel
theorem dX5_record_11 : decode cX5_record 11 = .ok (.iconst 1, 1) := by decide +kernel
theorem dX5_record_12 : decode cX5_record 12 = .ok (.bipush 60, 2) := by decide +kernel
theorem dX5_record_14 : decode cX5_record 14 = .ok (.invokestatic 54, 3) := by decide +kernel
theorem dX5_record_17 : decode cX5_record 17 = .ok (.ifCond .ne 5, 3) := by decide +kernel
theorem dX5_record_20 : decode cX5_record 20 = .ok (.iconst (-1), 1) := by decide +kernel
theorem dX5_record_21 : decode cX5_record 21 = .ok (.ireturn, 1) := by decide +kernel
theorem dX5_record_22 : decode cX5_record 22 = .ok (.aload_n 0, 1) := by decide +kernel
theorem dX5_record_23 : decode cX5_record 23 = .ok (.getfield 12, 3) := by decide +kernel
theorem dX5_record_26 : decode cX5_record 26 = .ok (.getfield 58, 3) := by decide +kernel
theorem dX5_record_29 : decode cX5_record 29 = .ok (.bipush 16, 2) := by decide +kernel
theorem dX5_record_31 : decode cX5_record 31 = .ok (.if_icmp .lt 6, 3) := by decide +kernel
theorem dX5_record_34 : decode cX5_record 34 = .ok (.bipush (-3), 2) := by decide +kernel
theorem dX5_record_36 : decode cX5_record 36 = .ok (.ireturn, 1) := by decide +kernel
theorem dX5_record_37 : decode cX5_record 37 = .ok (.aload_n 0, 1) := by decide +kernel
theorem dX5_record_38 : decode cX5_record 38 = .ok (.getfield 12, 3) := by decide +kernel
theorem dX5_record_41 : decode cX5_record 41 = .ok (.iload_n 1, 1) := by decide +kernel
theorem dX5_record_42 : decode cX5_record 42 = .ok (.iload_n 2, 1) := by decide +kernel
theorem dX5_record_43 : decode cX5_record 43 = .ok (.invokevirtual 62, 3) := by decide +kernel
theorem dX5_record_46 : decode cX5_record 46 = .ok (.ireturn, 1) := by decide +kernel
theorem dX5_change_0 : decode cX5_change 0 = .ok (.iload_n 1, 1) := by decide +kernel
theorem dX5_change_1 : decode cX5_change 1 = .ok (.iconst 0, 1) := by decide +kernel
theorem dX5_change_2 : decode cX5_change 2 = .ok (.bipush 9, 2) := by decide +kernel
theorem dX5_change_4 : decode cX5_change 4 = .ok (.invokestatic 54, 3) := by decide +kernel
theorem dX5_change_7 : decode cX5_change 7 = .ok (.ifCond .eq 20, 3) := by decide +kernel
theorem dX5_change_10 : decode cX5_change 10 = .ok (.iload_n 2, 1) := by decide +kernel
theorem dX5_change_11 : decode cX5_change 11 = .ok (.iconst (-1), 1) := by decide +kernel
theorem dX5_change_12 : decode cX5_change 12 = .ok (.aload_n 0, 1) := by decide +kernel
theorem dX5_change_13 : decode cX5_change 13 = .ok (.getfield 12, 3) := by decide +kernel
theorem dX5_change_16 : decode cX5_change 16 = .ok (.getfield 58, 3) := by decide +kernel
theorem dX5_change_19 : decode cX5_change 19 = .ok (.iconst 1, 1) := by decide +kernel
theorem dX5_change_20 : decode cX5_change 20 = .ok (.isub, 1) := by decide +kernel
theorem dX5_change_21 : decode cX5_change 21 = .ok (.invokestatic 54, 3) := by decide +kernel
theorem dX5_change_24 : decode cX5_change 24 = .ok (.ifCond .ne 5, 3) := by decide +kernel
theorem dX5_change_27 : decode cX5_change 27 = .ok (.iconst (-1), 1) := by decide +kernel
theorem dX5_change_28 : decode cX5_change 28 = .ok (.ireturn, 1) := by decide +kernel
theorem dX5_change_29 : decode cX5_change 29 = .ok (.aload_n 0, 1) := by decide +kernel
theorem dX5_change_30 : decode cX5_change 30 = .ok (.getfield 12, 3) := by decide +kernel
theorem dX5_change_33 : decode cX5_change 33 = .ok (.iload_n 2, 1) := by decide +kernel
theorem dX5_change_34 : decode cX5_change 34 = .ok (.invokevirtual 66, 3) := by decide +kernel
theorem dX5_change_37 : decode cX5_change 37 = .ok (.istore_n 3, 1) := by decide +kernel
theorem dX5_change_38 : decode cX5_change 38 = .ok (.aload_n 0, 1) := by decide +kernel
theorem dX5_change_39 : decode cX5_change 39 = .ok (.getfield 12, 3) := by decide +kernel
theorem dX5_change_42 : decode cX5_change 42 = .ok (.iload_n 1, 1) := by decide +kernel
theorem dX5_change_43 : decode cX5_change 43 = .ok (.invokevirtual 70, 3) := by decide +kernel
theorem dX5_change_46 : decode cX5_change 46 = .ok (.ifCond .ne 14, 3) := by decide +kernel
theorem dX5_change_49 : decode cX5_change 49 = .ok (.iload_n 3, 1) := by decide +kernel
theorem dX5_change_50 : decode cX5_change 50 = .ok (.bipush (-4), 2) := by decide +kernel
theorem dX5_change_52 : decode cX5_change 52 = .ok (.if_icmp .eq 11, 3) := by decide +kernel
theorem dX5_change_55 : decode cX5_change 55 = .ok (.iload_n 3, 1) := by decide +kernel
theorem dX5_change_56 : decode cX5_change 56 = .ok (.iload_n 1, 1) := by decide +kernel
theorem dX5_change_57 : decode cX5_change 57 = .ok (.if_icmp .eq 6, 3) := by decide +kernel
theorem dX5_change_60 : decode cX5_change 60 = .ok (.bipush (-2), 2) := by decide +kernel
theorem dX5_change_62 : decode cX5_change 62 = .ok (.ireturn, 1) := by decide +kernel
theorem dX5_change_63 : decode cX5_change 63 = .ok (.aload_n 0, 1) := by decide +kernel
theorem dX5_change_64 : decode cX5_change 64 = .ok (.getfield 36, 3) := by decide +kernel
theorem dX5_change_67 : decode cX5_change 67 = .ok (.invokevirtual 74, 3) := by decide +kernel
theorem dX5_change_70 : decode cX5_change 70 = .ok (.aload_n 0, 1) := by decide +kernel
theorem dX5_change_71 : decode cX5_change 71 = .ok (.getfield 12, 3) := by decide +kernel
theorem dX5_change_74 : decode cX5_change 74 = .ok (.getfield 77, 3) := by decide +kernel
theorem dX5_change_77 : decode cX5_change 77 = .ok (.iload_n 1, 1) := by decide +kernel
theorem dX5_change_78 : decode cX5_change 78 = .ok (.iaload, 1) := by decide +kernel
theorem dX5_change_79 : decode cX5_change 79 = .ok (.istore 4, 2) := by decide +kernel
theorem dX5_change_81 : decode cX5_change 81 = .ok (.aload_n 0, 1) := by decide +kernel
theorem dX5_change_82 : decode cX5_change 82 = .ok (.getfield 12, 3) := by decide +kernel
theorem dX5_change_85 : decode cX5_change 85 = .ok (.getfield 77, 3) := by decide +kernel
theorem dX5_change_88 : decode cX5_change 88 = .ok (.iload_n 1, 1) := by decide +kernel
theorem dX5_change_89 : decode cX5_change 89 = .ok (.iload_n 2, 1) := by decide +kernel
theorem dX5_change_90 : decode cX5_change 90 = .ok (.ifCond .ge 8, 3) := by decide +kernel
theorem dX5_change_93 : decode cX5_change 93 = .ok (.bipush (-4), 2) := by decide +kernel
theorem dX5_change_95 : decode cX5_change 95 = .ok (.goto 4, 3) := by decide +kernel
theorem dX5_change_98 : decode cX5_change 98 = .ok (.iload_n 2, 1) := by decide +kernel
theorem dX5_change_99 : decode cX5_change 99 = .ok (.iastore, 1) := by decide +kernel
theorem dX5_change_100 : decode cX5_change 100 = .ok (.iload 4, 2) := by decide +kernel
theorem dX5_change_102 : decode cX5_change 102 = .ok (.ireturn, 1) := by decide +kernel
theorem dX5_told_0 : decode cX5_told 0 = .ok (.iload_n 1, 1) := by decide +kernel
theorem dX5_told_1 : decode cX5_told 1 = .ok (.iconst 0, 1) := by decide +kernel
theorem dX5_told_2 : decode cX5_told 2 = .ok (.aload_n 0, 1) := by decide +kernel
theorem dX5_told_3 : decode cX5_told 3 = .ok (.getfield 12, 3) := by decide +kernel
theorem dX5_told_6 : decode cX5_told 6 = .ok (.getfield 58, 3) := by decide +kernel
theorem dX5_told_9 : decode cX5_told 9 = .ok (.iconst 1, 1) := by decide +kernel
theorem dX5_told_10 : decode cX5_told 10 = .ok (.isub, 1) := by decide +kernel
theorem dX5_told_11 : decode cX5_told 11 = .ok (.invokestatic 54, 3) := by decide +kernel
theorem dX5_told_14 : decode cX5_told 14 = .ok (.ifCond .ne 5, 3) := by decide +kernel
theorem dX5_told_17 : decode cX5_told 17 = .ok (.iconst (-1), 1) := by decide +kernel
theorem dX5_told_18 : decode cX5_told 18 = .ok (.ireturn, 1) := by decide +kernel
theorem dX5_told_19 : decode cX5_told 19 = .ok (.iload_n 2, 1) := by decide +kernel
theorem dX5_told_20 : decode cX5_told 20 = .ok (.tableswitch 75 0 4 #[36, 36, 50, 50, 66], 36) := by decide +kernel
theorem dX5_told_56 : decode cX5_told 56 = .ok (.aload_n 0, 1) := by decide +kernel
theorem dX5_told_57 : decode cX5_told 57 = .ok (.getfield 12, 3) := by decide +kernel
theorem dX5_told_60 : decode cX5_told 60 = .ok (.getfield 81, 3) := by decide +kernel
theorem dX5_told_63 : decode cX5_told 63 = .ok (.iconst 2, 1) := by decide +kernel
theorem dX5_told_64 : decode cX5_told 64 = .ok (.iload_n 1, 1) := by decide +kernel
theorem dX5_told_65 : decode cX5_told 65 = .ok (.imul, 1) := by decide +kernel
theorem dX5_told_66 : decode cX5_told 66 = .ok (.iload_n 2, 1) := by decide +kernel
theorem dX5_told_67 : decode cX5_told 67 = .ok (.iadd, 1) := by decide +kernel
theorem dX5_told_68 : decode cX5_told 68 = .ok (.iaload, 1) := by decide +kernel
theorem dX5_told_69 : decode cX5_told 69 = .ok (.ireturn, 1) := by decide +kernel
theorem dX5_told_70 : decode cX5_told 70 = .ok (.aload_n 0, 1) := by decide +kernel
theorem dX5_told_71 : decode cX5_told 71 = .ok (.getfield 12, 3) := by decide +kernel
theorem dX5_told_74 : decode cX5_told 74 = .ok (.getfield 84, 3) := by decide +kernel
theorem dX5_told_77 : decode cX5_told 77 = .ok (.iconst 2, 1) := by decide +kernel
theorem dX5_told_78 : decode cX5_told 78 = .ok (.iload_n 1, 1) := by decide +kernel
theorem dX5_told_79 : decode cX5_told 79 = .ok (.imul, 1) := by decide +kernel
theorem dX5_told_80 : decode cX5_told 80 = .ok (.iload_n 2, 1) := by decide +kernel
theorem dX5_told_81 : decode cX5_told 81 = .ok (.iadd, 1) := by decide +kernel
theorem dX5_told_82 : decode cX5_told 82 = .ok (.iconst 2, 1) := by decide +kernel
theorem dX5_told_83 : decode cX5_told 83 = .ok (.isub, 1) := by decide +kernel
theorem dX5_told_84 : decode cX5_told 84 = .ok (.iaload, 1) := by decide +kernel
theorem dX5_told_85 : decode cX5_told 85 = .ok (.ireturn, 1) := by decide +kernel
theorem dX5_told_86 : decode cX5_told 86 = .ok (.aload_n 0, 1) := by decide +kernel
theorem dX5_told_87 : decode cX5_told 87 = .ok (.getfield 12, 3) := by decide +kernel
theorem dX5_told_90 : decode cX5_told 90 = .ok (.iload_n 1, 1) := by decide +kernel
theorem dX5_told_91 : decode cX5_told 91 = .ok (.invokevirtual 66, 3) := by decide +kernel
theorem dX5_told_94 : decode cX5_told 94 = .ok (.ireturn, 1) := by decide +kernel
theorem dX5_told_95 : decode cX5_told 95 = .ok (.iconst (-1), 1) := by decide +kernel
theorem dX5_told_96 : decode cX5_told 96 = .ok (.ireturn, 1) := by decide +kernel
theorem dX5_song_0 : decode cX5_song 0 = .ok (.iload_n 1, 1) := by decide +kernel
theorem dX5_song_1 : decode cX5_song 1 = .ok (.iconst 0, 1) := by decide +kernel
theorem dX5_song_2 : decode cX5_song 2 = .ok (.bipush 19, 2) := by decide +kernel
theorem dX5_song_4 : decode cX5_song 4 = .ok (.invokestatic 54, 3) := by decide +kernel
theorem dX5_song_7 : decode cX5_song 7 = .ok (.ifCond .ne 5, 3) := by decide +kernel
theorem dX5_song_10 : decode cX5_song 10 = .ok (.iconst (-1), 1) := by decide +kernel
theorem dX5_song_11 : decode cX5_song 11 = .ok (.ireturn, 1) := by decide +kernel
theorem dX5_song_12 : decode cX5_song 12 = .ok (.iload_n 2, 1) := by decide +kernel
theorem dX5_song_13 : decode cX5_song 13 = .ok (.tableswitch 79 0 3 #[31, 48, 57, 67], 31) := by decide +kernel
theorem dX5_song_44 : decode cX5_song 44 = .ok (.aload_n 0, 1) := by decide +kernel
theorem dX5_song_45 : decode cX5_song 45 = .ok (.getfield 12, 3) := by decide +kernel
theorem dX5_song_48 : decode cX5_song 48 = .ok (.iload_n 1, 1) := by decide +kernel
theorem dX5_song_49 : decode cX5_song 49 = .ok (.invokevirtual 87, 3) := by decide +kernel
theorem dX5_song_52 : decode cX5_song 52 = .ok (.ifCond .eq 7, 3) := by decide +kernel
theorem dX5_song_55 : decode cX5_song 55 = .ok (.iconst 1, 1) := by decide +kernel
theorem dX5_song_56 : decode cX5_song 56 = .ok (.goto 4, 3) := by decide +kernel
theorem dX5_song_59 : decode cX5_song 59 = .ok (.iconst 0, 1) := by decide +kernel
theorem dX5_song_60 : decode cX5_song 60 = .ok (.ireturn, 1) := by decide +kernel
theorem dX5_song_61 : decode cX5_song 61 = .ok (.aload_n 0, 1) := by decide +kernel
theorem dX5_song_62 : decode cX5_song 62 = .ok (.getfield 12, 3) := by decide +kernel
theorem dX5_song_65 : decode cX5_song 65 = .ok (.iload_n 1, 1) := by decide +kernel
theorem dX5_song_66 : decode cX5_song 66 = .ok (.invokevirtual 90, 3) := by decide +kernel
theorem dX5_song_69 : decode cX5_song 69 = .ok (.ireturn, 1) := by decide +kernel
theorem dX5_song_70 : decode cX5_song 70 = .ok (.aload_n 0, 1) := by decide +kernel
theorem dX5_song_71 : decode cX5_song 71 = .ok (.getfield 12, 3) := by decide +kernel
theorem dX5_song_74 : decode cX5_song 74 = .ok (.getfield 93, 3) := by decide +kernel
theorem dX5_song_77 : decode cX5_song 77 = .ok (.iload_n 1, 1) := by decide +kernel
theorem dX5_song_78 : decode cX5_song 78 = .ok (.iaload, 1) := by decide +kernel
theorem dX5_song_79 : decode cX5_song 79 = .ok (.ireturn, 1) := by decide +kernel
theorem dX5_song_80 : decode cX5_song 80 = .ok (.aload_n 0, 1) := by decide +kernel
theorem dX5_song_81 : decode cX5_song 81 = .ok (.getfield 12, 3) := by decide +kernel
theorem dX5_song_84 : decode cX5_song 84 = .ok (.getfield 77, 3) := by decide +kernel
theorem dX5_song_87 : decode cX5_song 87 = .ok (.iload_n 1, 1) := by decide +kernel
theorem dX5_song_88 : decode cX5_song 88 = .ok (.iconst 2, 1) := by decide +kernel
theorem dX5_song_89 : decode cX5_song 89 = .ok (.idiv, 1) := by decide +kernel
theorem dX5_song_90 : decode cX5_song 90 = .ok (.iaload, 1) := by decide +kernel
theorem dX5_song_91 : decode cX5_song 91 = .ok (.ireturn, 1) := by decide +kernel
theorem dX5_song_92 : decode cX5_song 92 = .ok (.iconst (-1), 1) := by decide +kernel
theorem dX5_song_93 : decode cX5_song 93 = .ok (.ireturn, 1) := by decide +kernel
theorem dX5_stick_0 : decode cX5_stick 0 = .ok (.iload_n 1, 1) := by decide +kernel
theorem dX5_stick_1 : decode cX5_stick 1 = .ok (.iconst 0, 1) := by decide +kernel
theorem dX5_stick_2 : decode cX5_stick 2 = .ok (.bipush 19, 2) := by decide +kernel
theorem dX5_stick_4 : decode cX5_stick 4 = .ok (.invokestatic 54, 3) := by decide +kernel
theorem dX5_stick_7 : decode cX5_stick 7 = .ok (.ifCond .eq 12, 3) := by decide +kernel
theorem dX5_stick_10 : decode cX5_stick 10 = .ok (.iload_n 2, 1) := by decide +kernel
theorem dX5_stick_11 : decode cX5_stick 11 = .ok (.iconst 0, 1) := by decide +kernel
theorem dX5_stick_12 : decode cX5_stick 12 = .ok (.iconst 2, 1) := by decide +kernel
theorem dX5_stick_13 : decode cX5_stick 13 = .ok (.invokestatic 54, 3) := by decide +kernel
theorem dX5_stick_16 : decode cX5_stick 16 = .ok (.ifCond .ne 5, 3) := by decide +kernel
theorem dX5_stick_19 : decode cX5_stick 19 = .ok (.iconst (-1), 1) := by decide +kernel
theorem dX5_stick_20 : decode cX5_stick 20 = .ok (.ireturn, 1) := by decide +kernel
theorem dX5_stick_21 : decode cX5_stick 21 = .ok (.aload_n 0, 1) := by decide +kernel
theorem dX5_stick_22 : decode cX5_stick 22 = .ok (.getfield 36, 3) := by decide +kernel
theorem dX5_stick_25 : decode cX5_stick 25 = .ok (.invokevirtual 74, 3) := by decide +kernel
theorem dX5_stick_28 : decode cX5_stick 28 = .ok (.aload_n 0, 1) := by decide +kernel
theorem dX5_stick_29 : decode cX5_stick 29 = .ok (.getfield 12, 3) := by decide +kernel
theorem dX5_stick_32 : decode cX5_stick 32 = .ok (.iload_n 1, 1) := by decide +kernel
theorem dX5_stick_33 : decode cX5_stick 33 = .ok (.invokevirtual 90, 3) := by decide +kernel
theorem dX5_stick_36 : decode cX5_stick 36 = .ok (.istore_n 3, 1) := by decide +kernel
theorem dX5_stick_37 : decode cX5_stick 37 = .ok (.aload_n 0, 1) := by decide +kernel
theorem dX5_stick_38 : decode cX5_stick 38 = .ok (.getfield 12, 3) := by decide +kernel
theorem dX5_stick_41 : decode cX5_stick 41 = .ok (.iload_n 1, 1) := by decide +kernel
theorem dX5_stick_42 : decode cX5_stick 42 = .ok (.iload_n 2, 1) := by decide +kernel
theorem dX5_stick_43 : decode cX5_stick 43 = .ok (.invokevirtual 96, 3) := by decide +kernel
theorem dX5_stick_46 : decode cX5_stick 46 = .ok (.iload_n 3, 1) := by decide +kernel
theorem dX5_stick_47 : decode cX5_stick 47 = .ok (.ireturn, 1) := by decide +kernel
theorem dX5_prices_0 : decode cX5_prices 0 = .ok (.iload_n 1, 1) := by decide +kernel
theorem dX5_prices_1 : decode cX5_prices 1 = .ok (.iconst 1, 1) := by decide +kernel
theorem dX5_prices_2 : decode cX5_prices 2 = .ok (.bipush 99, 2) := by decide +kernel
theorem dX5_prices_4 : decode cX5_prices 4 = .ok (.invokestatic 54, 3) := by decide +kernel
theorem dX5_prices_7 : decode cX5_prices 7 = .ok (.ifCond .eq 24, 3) := by decide +kernel
theorem dX5_prices_10 : decode cX5_prices 10 = .ok (.iload_n 2, 1) := by decide +kernel
theorem dX5_prices_11 : decode cX5_prices 11 = .ok (.iload_n 1, 1) := by decide +kernel
theorem dX5_prices_12 : decode cX5_prices 12 = .ok (.sipush 999, 3) := by decide +kernel
theorem dX5_prices_15 : decode cX5_prices 15 = .ok (.invokestatic 54, 3) := by decide +kernel
theorem dX5_prices_18 : decode cX5_prices 18 = .ok (.ifCond .eq 13, 3) := by decide +kernel
theorem dX5_prices_21 : decode cX5_prices 21 = .ok (.iload_n 3, 1) := by decide +kernel
theorem dX5_prices_22 : decode cX5_prices 22 = .ok (.iconst 1, 1) := by decide +kernel
theorem dX5_prices_23 : decode cX5_prices 23 = .ok (.bipush 20, 2) := by decide +kernel
theorem dX5_prices_25 : decode cX5_prices 25 = .ok (.invokestatic 54, 3) := by decide +kernel
theorem dX5_prices_28 : decode cX5_prices 28 = .ok (.ifCond .ne 5, 3) := by decide +kernel
theorem dX5_prices_31 : decode cX5_prices 31 = .ok (.iconst (-1), 1) := by decide +kernel
theorem dX5_prices_32 : decode cX5_prices 32 = .ok (.ireturn, 1) := by decide +kernel
theorem dX5_prices_33 : decode cX5_prices 33 = .ok (.aload_n 0, 1) := by decide +kernel
theorem dX5_prices_34 : decode cX5_prices 34 = .ok (.getfield 19, 3) := by decide +kernel
theorem dX5_prices_37 : decode cX5_prices 37 = .ok (.iload_n 1, 1) := by decide +kernel
theorem dX5_prices_38 : decode cX5_prices 38 = .ok (.iload_n 2, 1) := by decide +kernel
theorem dX5_prices_39 : decode cX5_prices 39 = .ok (.iload_n 3, 1) := by decide +kernel
theorem dX5_prices_40 : decode cX5_prices 40 = .ok (.invokevirtual 100, 3) := by decide +kernel
theorem dX5_prices_43 : decode cX5_prices 43 = .ok (.iconst 1, 1) := by decide +kernel
theorem dX5_prices_44 : decode cX5_prices 44 = .ok (.ireturn, 1) := by decide +kernel
theorem dX5_coin_0 : decode cX5_coin 0 = .ok (.iload_n 1, 1) := by decide +kernel
theorem dX5_coin_1 : decode cX5_coin 1 = .ok (.iconst 1, 1) := by decide +kernel
theorem dX5_coin_2 : decode cX5_coin 2 = .ok (.bipush 99, 2) := by decide +kernel
theorem dX5_coin_4 : decode cX5_coin 4 = .ok (.invokestatic 54, 3) := by decide +kernel
theorem dX5_coin_7 : decode cX5_coin 7 = .ok (.ifCond .ne 5, 3) := by decide +kernel
theorem dX5_coin_10 : decode cX5_coin 10 = .ok (.iconst (-1), 1) := by decide +kernel
theorem dX5_coin_11 : decode cX5_coin 11 = .ok (.ireturn, 1) := by decide +kernel
theorem dX5_coin_12 : decode cX5_coin 12 = .ok (.aload_n 0, 1) := by decide +kernel
theorem dX5_coin_13 : decode cX5_coin 13 = .ok (.getfield 19, 3) := by decide +kernel
theorem dX5_coin_16 : decode cX5_coin 16 = .ok (.iload_n 1, 1) := by decide +kernel
theorem dX5_coin_17 : decode cX5_coin 17 = .ok (.invokevirtual 104, 3) := by decide +kernel
theorem dX5_coin_20 : decode cX5_coin 20 = .ok (.aload_n 0, 1) := by decide +kernel
theorem dX5_coin_21 : decode cX5_coin 21 = .ok (.getfield 19, 3) := by decide +kernel
theorem dX5_coin_24 : decode cX5_coin 24 = .ok (.getfield 108, 3) := by decide +kernel
theorem dX5_coin_27 : decode cX5_coin 27 = .ok (.ireturn, 1) := by decide +kernel
theorem dX5_set_0 : decode cX5_set 0 = .ok (.iload_n 1, 1) := by decide +kernel
theorem dX5_set_1 : decode cX5_set 1 = .ok (.lookupswitch 93 #[(0, 27), (1, 56)], 27) := by decide +kernel
theorem dX5_set_28 : decode cX5_set 28 = .ok (.iload_n 2, 1) := by decide +kernel
theorem dX5_set_29 : decode cX5_set 29 = .ok (.iconst 0, 1) := by decide +kernel
theorem dX5_set_30 : decode cX5_set 30 = .ok (.iconst 1, 1) := by decide +kernel
theorem dX5_set_31 : decode cX5_set 31 = .ok (.invokestatic 54, 3) := by decide +kernel
theorem dX5_set_34 : decode cX5_set 34 = .ok (.ifCond .ne 5, 3) := by decide +kernel
theorem dX5_set_37 : decode cX5_set 37 = .ok (.iconst (-1), 1) := by decide +kernel
theorem dX5_set_38 : decode cX5_set 38 = .ok (.ireturn, 1) := by decide +kernel
theorem dX5_set_39 : decode cX5_set 39 = .ok (.aload_n 0, 1) := by decide +kernel
theorem dX5_set_40 : decode cX5_set 40 = .ok (.getfield 19, 3) := by decide +kernel
theorem dX5_set_43 : decode cX5_set 43 = .ok (.getfield 111, 3) := by decide +kernel
theorem dX5_set_46 : decode cX5_set 46 = .ok (.istore_n 3, 1) := by decide +kernel
theorem dX5_set_47 : decode cX5_set 47 = .ok (.aload_n 0, 1) := by decide +kernel
theorem dX5_set_48 : decode cX5_set 48 = .ok (.getfield 19, 3) := by decide +kernel
theorem dX5_set_51 : decode cX5_set 51 = .ok (.iload_n 2, 1) := by decide +kernel
theorem dX5_set_52 : decode cX5_set 52 = .ok (.putfield 111, 3) := by decide +kernel
theorem dX5_set_55 : decode cX5_set 55 = .ok (.iload_n 3, 1) := by decide +kernel
theorem dX5_set_56 : decode cX5_set 56 = .ok (.ireturn, 1) := by decide +kernel
theorem dX5_set_57 : decode cX5_set 57 = .ok (.iload_n 2, 1) := by decide +kernel
theorem dX5_set_58 : decode cX5_set 58 = .ok (.iconst 1, 1) := by decide +kernel
theorem dX5_set_59 : decode cX5_set 59 = .ok (.bipush 99, 2) := by decide +kernel
theorem dX5_set_61 : decode cX5_set 61 = .ok (.invokestatic 54, 3) := by decide +kernel
theorem dX5_set_64 : decode cX5_set 64 = .ok (.ifCond .ne 5, 3) := by decide +kernel
theorem dX5_set_67 : decode cX5_set 67 = .ok (.iconst (-1), 1) := by decide +kernel
theorem dX5_set_68 : decode cX5_set 68 = .ok (.ireturn, 1) := by decide +kernel
theorem dX5_set_69 : decode cX5_set 69 = .ok (.aload_n 0, 1) := by decide +kernel
theorem dX5_set_70 : decode cX5_set 70 = .ok (.getfield 36, 3) := by decide +kernel
theorem dX5_set_73 : decode cX5_set 73 = .ok (.invokevirtual 74, 3) := by decide +kernel
theorem dX5_set_76 : decode cX5_set 76 = .ok (.aload_n 0, 1) := by decide +kernel
theorem dX5_set_77 : decode cX5_set 77 = .ok (.getfield 12, 3) := by decide +kernel
theorem dX5_set_80 : decode cX5_set 80 = .ok (.getfield 114, 3) := by decide +kernel
theorem dX5_set_83 : decode cX5_set 83 = .ok (.istore_n 3, 1) := by decide +kernel
theorem dX5_set_84 : decode cX5_set 84 = .ok (.aload_n 0, 1) := by decide +kernel
theorem dX5_set_85 : decode cX5_set 85 = .ok (.getfield 12, 3) := by decide +kernel
theorem dX5_set_88 : decode cX5_set 88 = .ok (.iload_n 2, 1) := by decide +kernel
theorem dX5_set_89 : decode cX5_set 89 = .ok (.putfield 114, 3) := by decide +kernel
theorem dX5_set_92 : decode cX5_set 92 = .ok (.iload_n 3, 1) := by decide +kernel
theorem dX5_set_93 : decode cX5_set 93 = .ok (.ireturn, 1) := by decide +kernel
theorem dX5_set_94 : decode cX5_set 94 = .ok (.iconst (-1), 1) := by decide +kernel
theorem dX5_set_95 : decode cX5_set 95 = .ok (.ireturn, 1) := by decide +kernel
theorem dX5_key_0 : decode cX5_key 0 = .ok (.iload_n 1, 1) := by decide +kernel
theorem dX5_key_1 : decode cX5_key 1 = .ok (.iconst 0, 1) := by decide +kernel
theorem dX5_key_2 : decode cX5_key 2 = .ok (.bipush 19, 2) := by decide +kernel
theorem dX5_key_4 : decode cX5_key 4 = .ok (.invokestatic 54, 3) := by decide +kernel
theorem dX5_key_7 : decode cX5_key 7 = .ok (.ifCond .ne 5, 3) := by decide +kernel
theorem dX5_key_10 : decode cX5_key 10 = .ok (.iconst (-1), 1) := by decide +kernel
theorem dX5_key_11 : decode cX5_key 11 = .ok (.ireturn, 1) := by decide +kernel
theorem dX5_key_12 : decode cX5_key 12 = .ok (.aload_n 0, 1) := by decide +kernel
theorem dX5_key_13 : decode cX5_key 13 = .ok (.getfield 19, 3) := by decide +kernel
theorem dX5_key_16 : decode cX5_key 16 = .ok (.getfield 108, 3) := by decide +kernel
theorem dX5_key_19 : decode cX5_key 19 = .ok (.iconst 1, 1) := by decide +kernel
theorem dX5_key_20 : decode cX5_key 20 = .ok (.if_icmp .ge 6, 3) := by decide +kernel
theorem dX5_key_23 : decode cX5_key 23 = .ok (.bipush (-2), 2) := by decide +kernel
theorem dX5_key_25 : decode cX5_key 25 = .ok (.ireturn, 1) := by decide +kernel
theorem dX5_key_26 : decode cX5_key 26 = .ok (.aload_n 0, 1) := by decide +kernel
theorem dX5_key_27 : decode cX5_key 27 = .ok (.getfield 12, 3) := by decide +kernel
theorem dX5_key_30 : decode cX5_key 30 = .ok (.iload_n 1, 1) := by decide +kernel
theorem dX5_key_31 : decode cX5_key 31 = .ok (.invokevirtual 87, 3) := by decide +kernel
theorem dX5_key_34 : decode cX5_key 34 = .ok (.ifCond .ne 14, 3) := by decide +kernel
theorem dX5_key_37 : decode cX5_key 37 = .ok (.aload_n 0, 1) := by decide +kernel
theorem dX5_key_38 : decode cX5_key 38 = .ok (.getfield 12, 3) := by decide +kernel
theorem dX5_key_41 : decode cX5_key 41 = .ok (.iload_n 1, 1) := by decide +kernel
theorem dX5_key_42 : decode cX5_key 42 = .ok (.invokevirtual 90, 3) := by decide +kernel
theorem dX5_key_45 : decode cX5_key 45 = .ok (.ifCond .eq 8, 3) := by decide +kernel
theorem dX5_key_48 : decode cX5_key 48 = .ok (.aload_n 0, 1) := by decide +kernel
theorem dX5_key_49 : decode cX5_key 49 = .ok (.invokevirtual 117, 3) := by decide +kernel
theorem dX5_key_52 : decode cX5_key 52 = .ok (.ireturn, 1) := by decide +kernel
theorem dX5_key_53 : decode cX5_key 53 = .ok (.aload_n 0, 1) := by decide +kernel
theorem dX5_key_54 : decode cX5_key 54 = .ok (.getfield 36, 3) := by decide +kernel
theorem dX5_key_57 : decode cX5_key 57 = .ok (.invokevirtual 74, 3) := by decide +kernel
theorem dX5_key_60 : decode cX5_key 60 = .ok (.aload_n 0, 1) := by decide +kernel
theorem dX5_key_61 : decode cX5_key 61 = .ok (.getfield 12, 3) := by decide +kernel
theorem dX5_key_64 : decode cX5_key 64 = .ok (.dup, 1) := by decide +kernel
theorem dX5_key_65 : decode cX5_key 65 = .ok (.getfield 121, 3) := by decide +kernel
theorem dX5_key_68 : decode cX5_key 68 = .ok (.iconst 1, 1) := by decide +kernel
theorem dX5_key_69 : decode cX5_key 69 = .ok (.iload_n 1, 1) := by decide +kernel
