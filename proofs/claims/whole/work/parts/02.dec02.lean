theorem dX6_foretell_1 : decode cX6_foretell 1 = .ok (.aload_n 0, 1) := by decide +kernel
theorem dX6_foretell_2 : decode cX6_foretell 2 = .ok (.getfield 13, 3) := by decide +kernel
theorem dX6_foretell_5 : decode cX6_foretell 5 = .ok (.invokevirtual 109, 3) := by decide +kernel
theorem dX6_foretell_8 : decode cX6_foretell 8 = .ok (.aload_n 0, 1) := by decide +kernel
theorem dX6_foretell_9 : decode cX6_foretell 9 = .ok (.iconst 0, 1) := by decide +kernel
theorem dX6_foretell_10 : decode cX6_foretell 10 = .ok (.putfield 113, 3) := by decide +kernel
theorem dX6_foretell_13 : decode cX6_foretell 13 = .ok (.iconst 0, 1) := by decide +kernel
theorem dX6_foretell_14 : decode cX6_foretell 14 = .ok (.istore_n 1, 1) := by decide +kernel
theorem dX6_foretell_15 : decode cX6_foretell 15 = .ok (.iconst 0, 1) := by decide +kernel
theorem dX6_foretell_16 : decode cX6_foretell 16 = .ok (.istore_n 2, 1) := by decide +kernel
theorem dX6_foretell_17 : decode cX6_foretell 17 = .ok (.aload_n 0, 1) := by decide +kernel
theorem dX6_foretell_18 : decode cX6_foretell 18 = .ok (.getfield 113, 3) := by decide +kernel
theorem dX6_foretell_21 : decode cX6_foretell 21 = .ok (.bipush 64, 2) := by decide +kernel
theorem dX6_foretell_23 : decode cX6_foretell 23 = .ok (.if_icmp .ge 91, 3) := by decide +kernel
theorem dX6_foretell_26 : decode cX6_foretell 26 = .ok (.iload_n 2, 1) := by decide +kernel
theorem dX6_foretell_27 : decode cX6_foretell 27 = .ok (.sipush 2000, 3) := by decide +kernel
theorem dX6_foretell_30 : decode cX6_foretell 30 = .ok (.if_icmp .ge 84, 3) := by decide +kernel
theorem dX6_foretell_33 : decode cX6_foretell 33 = .ok (.aload_n 0, 1) := by decide +kernel
theorem dX6_foretell_34 : decode cX6_foretell 34 = .ok (.getfield 7, 3) := by decide +kernel
theorem dX6_foretell_37 : decode cX6_foretell 37 = .ok (.iconst 3, 1) := by decide +kernel
theorem dX6_foretell_38 : decode cX6_foretell 38 = .ok (.iaload, 1) := by decide +kernel
theorem dX6_foretell_39 : decode cX6_foretell 39 = .ok (.ifCond .ne 10, 3) := by decide +kernel
theorem dX6_foretell_42 : decode cX6_foretell 42 = .ok (.aload_n 0, 1) := by decide +kernel
theorem dX6_foretell_43 : decode cX6_foretell 43 = .ok (.invokevirtual 82, 3) := by decide +kernel
theorem dX6_foretell_46 : decode cX6_foretell 46 = .ok (.ifCond .eq 68, 3) := by decide +kernel
theorem dX6_foretell_49 : decode cX6_foretell 49 = .ok (.aload_n 0, 1) := by decide +kernel
theorem dX6_foretell_50 : decode cX6_foretell 50 = .ok (.getfield 7, 3) := by decide +kernel
theorem dX6_foretell_53 : decode cX6_foretell 53 = .ok (.iconst 5, 1) := by decide +kernel
theorem dX6_foretell_54 : decode cX6_foretell 54 = .ok (.iaload, 1) := by decide +kernel
theorem dX6_foretell_55 : decode cX6_foretell 55 = .ok (.istore_n 3, 1) := by decide +kernel
theorem dX6_foretell_56 : decode cX6_foretell 56 = .ok (.aload_n 0, 1) := by decide +kernel
theorem dX6_foretell_57 : decode cX6_foretell 57 = .ok (.invokevirtual 104, 3) := by decide +kernel
theorem dX6_foretell_60 : decode cX6_foretell 60 = .ok (.iinc 1 1, 3) := by decide +kernel
theorem dX6_foretell_63 : decode cX6_foretell 63 = .ok (.iinc 2 1, 3) := by decide +kernel
theorem dX6_foretell_66 : decode cX6_foretell 66 = .ok (.aload_n 0, 1) := by decide +kernel
theorem dX6_foretell_67 : decode cX6_foretell 67 = .ok (.getfield 7, 3) := by decide +kernel
theorem dX6_foretell_70 : decode cX6_foretell 70 = .ok (.iconst 5, 1) := by decide +kernel
theorem dX6_foretell_71 : decode cX6_foretell 71 = .ok (.iaload, 1) := by decide +kernel
theorem dX6_foretell_72 : decode cX6_foretell 72 = .ok (.iload_n 3, 1) := by decide +kernel
theorem dX6_foretell_73 : decode cX6_foretell 73 = .ok (.if_icmp .le 38, 3) := by decide +kernel
theorem dX6_foretell_76 : decode cX6_foretell 76 = .ok (.aload_n 0, 1) := by decide +kernel
theorem dX6_foretell_77 : decode cX6_foretell 77 = .ok (.getfield 16, 3) := by decide +kernel
theorem dX6_foretell_80 : decode cX6_foretell 80 = .ok (.aload_n 0, 1) := by decide +kernel
theorem dX6_foretell_81 : decode cX6_foretell 81 = .ok (.getfield 113, 3) := by decide +kernel
theorem dX6_foretell_84 : decode cX6_foretell 84 = .ok (.aload_n 0, 1) := by decide +kernel
theorem dX6_foretell_85 : decode cX6_foretell 85 = .ok (.invokevirtual 89, 3) := by decide +kernel
theorem dX6_foretell_88 : decode cX6_foretell 88 = .ok (.iastore, 1) := by decide +kernel
theorem dX6_foretell_89 : decode cX6_foretell 89 = .ok (.aload_n 0, 1) := by decide +kernel
theorem dX6_foretell_90 : decode cX6_foretell 90 = .ok (.getfield 19, 3) := by decide +kernel
theorem dX6_foretell_93 : decode cX6_foretell 93 = .ok (.aload_n 0, 1) := by decide +kernel
theorem dX6_foretell_94 : decode cX6_foretell 94 = .ok (.getfield 113, 3) := by decide +kernel
theorem dX6_foretell_97 : decode cX6_foretell 97 = .ok (.iload_n 1, 1) := by decide +kernel
theorem dX6_foretell_98 : decode cX6_foretell 98 = .ok (.iastore, 1) := by decide +kernel
theorem dX6_foretell_99 : decode cX6_foretell 99 = .ok (.aload_n 0, 1) := by decide +kernel
theorem dX6_foretell_100 : decode cX6_foretell 100 = .ok (.dup, 1) := by decide +kernel
theorem dX6_foretell_101 : decode cX6_foretell 101 = .ok (.getfield 113, 3) := by decide +kernel
theorem dX6_foretell_104 : decode cX6_foretell 104 = .ok (.iconst 1, 1) := by decide +kernel
theorem dX6_foretell_105 : decode cX6_foretell 105 = .ok (.iadd, 1) := by decide +kernel
theorem dX6_foretell_106 : decode cX6_foretell 106 = .ok (.putfield 113, 3) := by decide +kernel
theorem dX6_foretell_109 : decode cX6_foretell 109 = .ok (.iconst 0, 1) := by decide +kernel
theorem dX6_foretell_110 : decode cX6_foretell 110 = .ok (.istore_n 2, 1) := by decide +kernel
theorem dX6_foretell_111 : decode cX6_foretell 111 = .ok (.goto (-94), 3) := by decide +kernel
theorem dX6_foretell_114 : decode cX6_foretell 114 = .ok (.aload_n 0, 1) := by decide +kernel
theorem dX6_foretell_115 : decode cX6_foretell 115 = .ok (.iload_n 1, 1) := by decide +kernel
theorem dX6_foretell_116 : decode cX6_foretell 116 = .ok (.putfield 117, 3) := by decide +kernel
theorem dX6_foretell_119 : decode cX6_foretell 119 = .ok (.aload_n 0, 1) := by decide +kernel
theorem dX6_foretell_120 : decode cX6_foretell 120 = .ok (.aload_n 0, 1) := by decide +kernel
theorem dX6_foretell_121 : decode cX6_foretell 121 = .ok (.getfield 13, 3) := by decide +kernel
theorem dX6_foretell_124 : decode cX6_foretell 124 = .ok (.invokevirtual 120, 3) := by decide +kernel
theorem dX6_foretell_127 : decode cX6_foretell 127 = .ok (.return_, 1) := by decide +kernel
theorem dX6_next_0 : decode cX6_next 0 = .ok (.iload_n 1, 1) := by decide +kernel
theorem dX6_next_1 : decode cX6_next 1 = .ok (.i2l, 1) := by decide +kernel
theorem dX6_next_2 : decode cX6_next 2 = .ok (.lconst 0, 1) := by decide +kernel
theorem dX6_next_3 : decode cX6_next 3 = .ok (.ldc2_w 123, 3) := by decide +kernel
theorem dX6_next_6 : decode cX6_next 6 = .ok (.invokestatic 43, 3) := by decide +kernel
theorem dX6_next_9 : decode cX6_next 9 = .ok (.ifCond .ne 5, 3) := by decide +kernel
theorem dX6_next_12 : decode cX6_next 12 = .ok (.iconst (-1), 1) := by decide +kernel
theorem dX6_next_13 : decode cX6_next 13 = .ok (.ireturn, 1) := by decide +kernel
theorem dX6_next_14 : decode cX6_next 14 = .ok (.aload_n 0, 1) := by decide +kernel
theorem dX6_next_15 : decode cX6_next 15 = .ok (.invokevirtual 125, 3) := by decide +kernel
theorem dX6_next_18 : decode cX6_next 18 = .ok (.iload_n 1, 1) := by decide +kernel
theorem dX6_next_19 : decode cX6_next 19 = .ok (.aload_n 0, 1) := by decide +kernel
theorem dX6_next_20 : decode cX6_next 20 = .ok (.getfield 113, 3) := by decide +kernel
theorem dX6_next_23 : decode cX6_next 23 = .ok (.if_icmp .ge 12, 3) := by decide +kernel
theorem dX6_next_26 : decode cX6_next 26 = .ok (.aload_n 0, 1) := by decide +kernel
theorem dX6_next_27 : decode cX6_next 27 = .ok (.getfield 16, 3) := by decide +kernel
theorem dX6_next_30 : decode cX6_next 30 = .ok (.iload_n 1, 1) := by decide +kernel
theorem dX6_next_31 : decode cX6_next 31 = .ok (.iaload, 1) := by decide +kernel
theorem dX6_next_32 : decode cX6_next 32 = .ok (.goto 5, 3) := by decide +kernel
theorem dX6_next_35 : decode cX6_next 35 = .ok (.bipush (-4), 2) := by decide +kernel
theorem dX6_next_37 : decode cX6_next 37 = .ok (.ireturn, 1) := by decide +kernel
theorem dX6_when_0 : decode cX6_when 0 = .ok (.iload_n 1, 1) := by decide +kernel
theorem dX6_when_1 : decode cX6_when 1 = .ok (.invokestatic 67, 3) := by decide +kernel
theorem dX6_when_4 : decode cX6_when 4 = .ok (.ifCond .ne 5, 3) := by decide +kernel
theorem dX6_when_7 : decode cX6_when 7 = .ok (.iconst (-1), 1) := by decide +kernel
theorem dX6_when_8 : decode cX6_when 8 = .ok (.ireturn, 1) := by decide +kernel
theorem dX6_when_9 : decode cX6_when 9 = .ok (.aload_n 0, 1) := by decide +kernel
theorem dX6_when_10 : decode cX6_when 10 = .ok (.invokevirtual 125, 3) := by decide +kernel
theorem dX6_when_13 : decode cX6_when 13 = .ok (.iconst 0, 1) := by decide +kernel
theorem dX6_when_14 : decode cX6_when 14 = .ok (.istore_n 2, 1) := by decide +kernel
theorem dX6_when_15 : decode cX6_when 15 = .ok (.iload_n 2, 1) := by decide +kernel
theorem dX6_when_16 : decode cX6_when 16 = .ok (.aload_n 0, 1) := by decide +kernel
theorem dX6_when_17 : decode cX6_when 17 = .ok (.getfield 113, 3) := by decide +kernel
theorem dX6_when_20 : decode cX6_when 20 = .ok (.if_icmp .ge 26, 3) := by decide +kernel
theorem dX6_when_23 : decode cX6_when 23 = .ok (.aload_n 0, 1) := by decide +kernel
theorem dX6_when_24 : decode cX6_when 24 = .ok (.getfield 16, 3) := by decide +kernel
theorem dX6_when_27 : decode cX6_when 27 = .ok (.iload_n 2, 1) := by decide +kernel
theorem dX6_when_28 : decode cX6_when 28 = .ok (.iaload, 1) := by decide +kernel
theorem dX6_when_29 : decode cX6_when 29 = .ok (.iload_n 1, 1) := by decide +kernel
theorem dX6_when_30 : decode cX6_when 30 = .ok (.if_icmp .ne 10, 3) := by decide +kernel
theorem dX6_when_33 : decode cX6_when 33 = .ok (.aload_n 0, 1) := by decide +kernel
theorem dX6_when_34 : decode cX6_when 34 = .ok (.getfield 19, 3) := by decide +kernel
theorem dX6_when_37 : decode cX6_when 37 = .ok (.iload_n 2, 1) := by decide +kernel
theorem dX6_when_38 : decode cX6_when 38 = .ok (.iaload, 1) := by decide +kernel
theorem dX6_when_39 : decode cX6_when 39 = .ok (.ireturn, 1) := by decide +kernel
theorem dX6_when_40 : decode cX6_when 40 = .ok (.iinc 2 1, 3) := by decide +kernel
theorem dX6_when_43 : decode cX6_when 43 = .ok (.goto (-28), 3) := by decide +kernel
theorem dX6_when_46 : decode cX6_when 46 = .ok (.bipush (-4), 2) := by decide +kernel
theorem dX6_when_48 : decode cX6_when 48 = .ok (.ireturn, 1) := by decide +kernel
theorem dX6_isStuckIn_0 : decode cX6_isStuckIn 0 = .ok (.iconst 0, 1) := by decide +kernel
theorem dX6_isStuckIn_1 : decode cX6_isStuckIn 1 = .ok (.istore_n 1, 1) := by decide +kernel
theorem dX6_isStuckIn_2 : decode cX6_isStuckIn 2 = .ok (.iconst 0, 1) := by decide +kernel
theorem dX6_isStuckIn_3 : decode cX6_isStuckIn 3 = .ok (.istore_n 2, 1) := by decide +kernel
theorem dX6_isStuckIn_4 : decode cX6_isStuckIn 4 = .ok (.iload_n 2, 1) := by decide +kernel
theorem dX6_isStuckIn_5 : decode cX6_isStuckIn 5 = .ok (.bipush 20, 2) := by decide +kernel
theorem dX6_isStuckIn_7 : decode cX6_isStuckIn 7 = .ok (.if_icmp .ge 32, 3) := by decide +kernel
theorem dX6_isStuckIn_10 : decode cX6_isStuckIn 10 = .ok (.iload_n 1, 1) := by decide +kernel
theorem dX6_isStuckIn_11 : decode cX6_isStuckIn 11 = .ok (.ifCond .ne 16, 3) := by decide +kernel
theorem dX6_isStuckIn_14 : decode cX6_isStuckIn 14 = .ok (.aload_n 0, 1) := by decide +kernel
theorem dX6_isStuckIn_15 : decode cX6_isStuckIn 15 = .ok (.getfield 7, 3) := by decide +kernel
theorem dX6_isStuckIn_18 : decode cX6_isStuckIn 18 = .ok (.bipush 50, 2) := by decide +kernel
theorem dX6_isStuckIn_20 : decode cX6_isStuckIn 20 = .ok (.iload_n 2, 1) := by decide +kernel
theorem dX6_isStuckIn_21 : decode cX6_isStuckIn 21 = .ok (.iadd, 1) := by decide +kernel
theorem dX6_isStuckIn_22 : decode cX6_isStuckIn 22 = .ok (.iaload, 1) := by decide +kernel
theorem dX6_isStuckIn_23 : decode cX6_isStuckIn 23 = .ok (.iconst 1, 1) := by decide +kernel
theorem dX6_isStuckIn_24 : decode cX6_isStuckIn 24 = .ok (.if_icmp .ne 7, 3) := by decide +kernel
theorem dX6_isStuckIn_27 : decode cX6_isStuckIn 27 = .ok (.iconst 1, 1) := by decide +kernel
theorem dX6_isStuckIn_28 : decode cX6_isStuckIn 28 = .ok (.goto 4, 3) := by decide +kernel
theorem dX6_isStuckIn_31 : decode cX6_isStuckIn 31 = .ok (.iconst 0, 1) := by decide +kernel
theorem dX6_isStuckIn_32 : decode cX6_isStuckIn 32 = .ok (.istore_n 1, 1) := by decide +kernel
theorem dX6_isStuckIn_33 : decode cX6_isStuckIn 33 = .ok (.iinc 2 1, 3) := by decide +kernel
theorem dX6_isStuckIn_36 : decode cX6_isStuckIn 36 = .ok (.goto (-32), 3) := by decide +kernel
theorem dX6_isStuckIn_39 : decode cX6_isStuckIn 39 = .ok (.iload_n 1, 1) := by decide +kernel
theorem dX6_isStuckIn_40 : decode cX6_isStuckIn 40 = .ok (.ireturn, 1) := by decide +kernel
theorem dX6_done_0 : decode cX6_done 0 = .ok (.aload_n 0, 1) := by decide +kernel
theorem dX6_done_1 : decode cX6_done 1 = .ok (.invokevirtual 128, 3) := by decide +kernel
theorem dX6_done_4 : decode cX6_done 4 = .ok (.ifCond .eq 6, 3) := by decide +kernel
theorem dX6_done_7 : decode cX6_done 7 = .ok (.bipush (-2), 2) := by decide +kernel
theorem dX6_done_9 : decode cX6_done 9 = .ok (.ireturn, 1) := by decide +kernel
theorem dX6_done_10 : decode cX6_done 10 = .ok (.aload_n 0, 1) := by decide +kernel
theorem dX6_done_11 : decode cX6_done 11 = .ok (.invokevirtual 125, 3) := by decide +kernel
theorem dX6_done_14 : decode cX6_done 14 = .ok (.aload_n 0, 1) := by decide +kernel
theorem dX6_done_15 : decode cX6_done 15 = .ok (.getfield 117, 3) := by decide +kernel
theorem dX6_done_18 : decode cX6_done 18 = .ok (.ireturn, 1) := by decide +kernel
theorem dX6_better_0 : decode cX6_better 0 = .ok (.iload_n 1, 1) := by decide +kernel
theorem dX6_better_1 : decode cX6_better 1 = .ok (.i2l, 1) := by decide +kernel
theorem dX6_better_2 : decode cX6_better 2 = .ok (.lconst 0, 1) := by decide +kernel
theorem dX6_better_3 : decode cX6_better 3 = .ok (.ldc2_w 70, 3) := by decide +kernel
theorem dX6_better_6 : decode cX6_better 6 = .ok (.invokestatic 43, 3) := by decide +kernel
theorem dX6_better_9 : decode cX6_better 9 = .ok (.ifCond .ne 5, 3) := by decide +kernel
theorem dX6_better_12 : decode cX6_better 12 = .ok (.iconst (-1), 1) := by decide +kernel
theorem dX6_better_13 : decode cX6_better 13 = .ok (.ireturn, 1) := by decide +kernel
theorem dX6_better_14 : decode cX6_better 14 = .ok (.aload_n 0, 1) := by decide +kernel
theorem dX6_better_15 : decode cX6_better 15 = .ok (.invokevirtual 128, 3) := by decide +kernel
theorem dX6_better_18 : decode cX6_better 18 = .ok (.ifCond .eq 6, 3) := by decide +kernel
theorem dX6_better_21 : decode cX6_better 21 = .ok (.bipush (-2), 2) := by decide +kernel
theorem dX6_better_23 : decode cX6_better 23 = .ok (.ireturn, 1) := by decide +kernel
theorem dX6_better_24 : decode cX6_better 24 = .ok (.aload_n 0, 1) := by decide +kernel
theorem dX6_better_25 : decode cX6_better 25 = .ok (.invokevirtual 125, 3) := by decide +kernel
theorem dX6_better_28 : decode cX6_better 28 = .ok (.aload_n 0, 1) := by decide +kernel
theorem dX6_better_29 : decode cX6_better 29 = .ok (.getfield 117, 3) := by decide +kernel
theorem dX6_better_32 : decode cX6_better 32 = .ok (.istore_n 2, 1) := by decide +kernel
theorem dX6_better_33 : decode cX6_better 33 = .ok (.bipush (-4), 2) := by decide +kernel
theorem dX6_better_35 : decode cX6_better 35 = .ok (.istore_n 3, 1) := by decide +kernel
theorem dX6_better_36 : decode cX6_better 36 = .ok (.bipush (-4), 2) := by decide +kernel
theorem dX6_better_38 : decode cX6_better 38 = .ok (.istore 4, 2) := by decide +kernel
theorem dX6_better_40 : decode cX6_better 40 = .ok (.iconst 0, 1) := by decide +kernel
theorem dX6_better_41 : decode cX6_better 41 = .ok (.istore 5, 2) := by decide +kernel
theorem dX6_better_43 : decode cX6_better 43 = .ok (.iload 5, 2) := by decide +kernel
theorem dX6_better_45 : decode cX6_better 45 = .ok (.bipush 10, 2) := by decide +kernel
theorem dX6_better_47 : decode cX6_better 47 = .ok (.if_icmp .ge 146, 3) := by decide +kernel
theorem dX6_better_50 : decode cX6_better 50 = .ok (.iload 5, 2) := by decide +kernel
theorem dX6_better_52 : decode cX6_better 52 = .ok (.iconst 1, 1) := by decide +kernel
theorem dX6_better_53 : decode cX6_better 53 = .ok (.iadd, 1) := by decide +kernel
theorem dX6_better_54 : decode cX6_better 54 = .ok (.istore 6, 2) := by decide +kernel
theorem dX6_better_56 : decode cX6_better 56 = .ok (.iload 6, 2) := by decide +kernel
theorem dX6_better_58 : decode cX6_better 58 = .ok (.bipush 10, 2) := by decide +kernel
theorem dX6_better_60 : decode cX6_better 60 = .ok (.if_icmp .ge 127, 3) := by decide +kernel
theorem dX6_better_63 : decode cX6_better 63 = .ok (.aload_n 0, 1) := by decide +kernel
theorem dX6_better_64 : decode cX6_better 64 = .ok (.iload 5, 2) := by decide +kernel
theorem dX6_better_66 : decode cX6_better 66 = .ok (.invokevirtual 64, 3) := by decide +kernel
theorem dX6_better_69 : decode cX6_better 69 = .ok (.ifCond .ne 112, 3) := by decide +kernel
theorem dX6_better_72 : decode cX6_better 72 = .ok (.aload_n 0, 1) := by decide +kernel
theorem dX6_better_73 : decode cX6_better 73 = .ok (.iload 6, 2) := by decide +kernel
theorem dX6_better_75 : decode cX6_better 75 = .ok (.invokevirtual 64, 3) := by decide +kernel
theorem dX6_better_78 : decode cX6_better 78 = .ok (.ifCond .ne 103, 3) := by decide +kernel
theorem dX6_better_81 : decode cX6_better 81 = .ok (.aload_n 0, 1) := by decide +kernel
theorem dX6_better_82 : decode cX6_better 82 = .ok (.getfield 7, 3) := by decide +kernel
theorem dX6_better_85 : decode cX6_better 85 = .ok (.bipush 20, 2) := by decide +kernel
theorem dX6_better_87 : decode cX6_better 87 = .ok (.iload 5, 2) := by decide +kernel
theorem dX6_better_89 : decode cX6_better 89 = .ok (.iadd, 1) := by decide +kernel
theorem dX6_better_90 : decode cX6_better 90 = .ok (.iaload, 1) := by decide +kernel
theorem dX6_better_91 : decode cX6_better 91 = .ok (.istore 7, 2) := by decide +kernel
theorem dX6_better_93 : decode cX6_better 93 = .ok (.aload_n 0, 1) := by decide +kernel
theorem dX6_better_94 : decode cX6_better 94 = .ok (.getfield 7, 3) := by decide +kernel
theorem dX6_better_97 : decode cX6_better 97 = .ok (.bipush 20, 2) := by decide +kernel
theorem dX6_better_99 : decode cX6_better 99 = .ok (.iload 5, 2) := by decide +kernel
theorem dX6_better_101 : decode cX6_better 101 = .ok (.iadd, 1) := by decide +kernel
theorem dX6_better_102 : decode cX6_better 102 = .ok (.aload_n 0, 1) := by decide +kernel
theorem dX6_better_103 : decode cX6_better 103 = .ok (.getfield 7, 3) := by decide +kernel
theorem dX6_better_106 : decode cX6_better 106 = .ok (.bipush 20, 2) := by decide +kernel
theorem dX6_better_108 : decode cX6_better 108 = .ok (.iload 6, 2) := by decide +kernel
theorem dX6_better_110 : decode cX6_better 110 = .ok (.iadd, 1) := by decide +kernel
theorem dX6_better_111 : decode cX6_better 111 = .ok (.iaload, 1) := by decide +kernel
theorem dX6_better_112 : decode cX6_better 112 = .ok (.iastore, 1) := by decide +kernel
theorem dX6_better_113 : decode cX6_better 113 = .ok (.aload_n 0, 1) := by decide +kernel
theorem dX6_better_114 : decode cX6_better 114 = .ok (.getfield 7, 3) := by decide +kernel
theorem dX6_better_117 : decode cX6_better 117 = .ok (.bipush 20, 2) := by decide +kernel
theorem dX6_better_119 : decode cX6_better 119 = .ok (.iload 6, 2) := by decide +kernel
theorem dX6_better_121 : decode cX6_better 121 = .ok (.iadd, 1) := by decide +kernel
theorem dX6_better_122 : decode cX6_better 122 = .ok (.iload 7, 2) := by decide +kernel
theorem dX6_better_124 : decode cX6_better 124 = .ok (.iastore, 1) := by decide +kernel
theorem dX6_better_125 : decode cX6_better 125 = .ok (.aload_n 0, 1) := by decide +kernel
theorem dX6_better_126 : decode cX6_better 126 = .ok (.invokevirtual 125, 3) := by decide +kernel
theorem dX6_better_129 : decode cX6_better 129 = .ok (.aload_n 0, 1) := by decide +kernel
theorem dX6_better_130 : decode cX6_better 130 = .ok (.getfield 7, 3) := by decide +kernel
theorem dX6_better_133 : decode cX6_better 133 = .ok (.bipush 20, 2) := by decide +kernel
theorem dX6_better_135 : decode cX6_better 135 = .ok (.iload 6, 2) := by decide +kernel
theorem dX6_better_137 : decode cX6_better 137 = .ok (.iadd, 1) := by decide +kernel
theorem dX6_better_138 : decode cX6_better 138 = .ok (.aload_n 0, 1) := by decide +kernel
theorem dX6_better_139 : decode cX6_better 139 = .ok (.getfield 7, 3) := by decide +kernel
theorem dX6_better_142 : decode cX6_better 142 = .ok (.bipush 20, 2) := by decide +kernel
theorem dX6_better_144 : decode cX6_better 144 = .ok (.iload 5, 2) := by decide +kernel
theorem dX6_better_146 : decode cX6_better 146 = .ok (.iadd, 1) := by decide +kernel
theorem dX6_better_147 : decode cX6_better 147 = .ok (.iaload, 1) := by decide +kernel
theorem dX6_better_148 : decode cX6_better 148 = .ok (.iastore, 1) := by decide +kernel
theorem dX6_better_149 : decode cX6_better 149 = .ok (.aload_n 0, 1) := by decide +kernel
theorem dX6_better_150 : decode cX6_better 150 = .ok (.getfield 7, 3) := by decide +kernel
theorem dX6_better_153 : decode cX6_better 153 = .ok (.bipush 20, 2) := by decide +kernel
theorem dX6_better_155 : decode cX6_better 155 = .ok (.iload 5, 2) := by decide +kernel
theorem dX6_better_157 : decode cX6_better 157 = .ok (.iadd, 1) := by decide +kernel
theorem dX6_better_158 : decode cX6_better 158 = .ok (.iload 7, 2) := by decide +kernel
theorem dX6_better_160 : decode cX6_better 160 = .ok (.iastore, 1) := by decide +kernel
theorem dX6_better_161 : decode cX6_better 161 = .ok (.aload_n 0, 1) := by decide +kernel
theorem dX6_better_162 : decode cX6_better 162 = .ok (.getfield 117, 3) := by decide +kernel
theorem dX6_better_165 : decode cX6_better 165 = .ok (.iload_n 2, 1) := by decide +kernel
theorem dX6_better_166 : decode cX6_better 166 = .ok (.if_icmp .ge 15, 3) := by decide +kernel
theorem dX6_better_169 : decode cX6_better 169 = .ok (.aload_n 0, 1) := by decide +kernel
theorem dX6_better_170 : decode cX6_better 170 = .ok (.getfield 117, 3) := by decide +kernel
theorem dX6_better_173 : decode cX6_better 173 = .ok (.istore_n 2, 1) := by decide +kernel
theorem dX6_better_174 : decode cX6_better 174 = .ok (.iload 5, 2) := by decide +kernel
theorem dX6_better_176 : decode cX6_better 176 = .ok (.istore_n 3, 1) := by decide +kernel
theorem dX6_better_177 : decode cX6_better 177 = .ok (.iload 6, 2) := by decide +kernel
theorem dX6_better_179 : decode cX6_better 179 = .ok (.istore 4, 2) := by decide +kernel
theorem dX6_better_181 : decode cX6_better 181 = .ok (.iinc 6 1, 3) := by decide +kernel
theorem dX6_better_184 : decode cX6_better 184 = .ok (.goto (-128), 3) := by decide +kernel
theorem dX6_better_187 : decode cX6_better 187 = .ok (.iinc 5 1, 3) := by decide +kernel
theorem dX6_better_190 : decode cX6_better 190 = .ok (.goto (-147), 3) := by decide +kernel
theorem dX6_better_193 : decode cX6_better 193 = .ok (.iload_n 3, 1) := by decide +kernel
theorem dX6_better_194 : decode cX6_better 194 = .ok (.ifCond .ge 8, 3) := by decide +kernel
theorem dX6_better_197 : decode cX6_better 197 = .ok (.bipush (-4), 2) := by decide +kernel
theorem dX6_better_199 : decode cX6_better 199 = .ok (.goto 22, 3) := by decide +kernel
theorem dX6_better_202 : decode cX6_better 202 = .ok (.iload_n 1, 1) := by decide +kernel
theorem dX6_better_203 : decode cX6_better 203 = .ok (.ifCond .ne 7, 3) := by decide +kernel
theorem dX6_better_206 : decode cX6_better 206 = .ok (.iload_n 3, 1) := by decide +kernel
theorem dX6_better_207 : decode cX6_better 207 = .ok (.goto 14, 3) := by decide +kernel
theorem dX6_better_210 : decode cX6_better 210 = .ok (.iload_n 1, 1) := by decide +kernel
theorem dX6_better_211 : decode cX6_better 211 = .ok (.iconst 1, 1) := by decide +kernel
theorem dX6_better_212 : decode cX6_better 212 = .ok (.if_icmp .ne 8, 3) := by decide +kernel
theorem dX6_better_215 : decode cX6_better 215 = .ok (.iload 4, 2) := by decide +kernel
theorem dX6_better_217 : decode cX6_better 217 = .ok (.goto 4, 3) := by decide +kernel
theorem dX6_better_220 : decode cX6_better 220 = .ok (.iload_n 2, 1) := by decide +kernel
theorem dX6_better_221 : decode cX6_better 221 = .ok (.ireturn, 1) := by decide +kernel
theorem dX6_hear_0 : decode cX6_hear 0 = .ok (.iload_n 1, 1) := by decide +kernel
theorem dX6_hear_1 : decode cX6_hear 1 = .ok (.iload_n 2, 1) := by decide +kernel
theorem dX6_hear_2 : decode cX6_hear 2 = .ok (.invokestatic 132, 3) := by decide +kernel
theorem dX6_hear_5 : decode cX6_hear 5 = .ok (.ifCond .eq 29, 3) := by decide +kernel
theorem dX6_hear_8 : decode cX6_hear 8 = .ok (.iload 4, 2) := by decide +kernel
theorem dX6_hear_10 : decode cX6_hear 10 = .ok (.i2l, 1) := by decide +kernel
theorem dX6_hear_11 : decode cX6_hear 11 = .ok (.lconst 1, 1) := by decide +kernel
theorem dX6_hear_12 : decode cX6_hear 12 = .ok (.ldc2_w 76, 3) := by decide +kernel
theorem dX6_hear_15 : decode cX6_hear 15 = .ok (.invokestatic 43, 3) := by decide +kernel
theorem dX6_hear_18 : decode cX6_hear 18 = .ok (.ifCond .eq 16, 3) := by decide +kernel
theorem dX6_hear_21 : decode cX6_hear 21 = .ok (.iload 5, 2) := by decide +kernel
theorem dX6_hear_23 : decode cX6_hear 23 = .ok (.i2l, 1) := by decide +kernel
theorem dX6_hear_24 : decode cX6_hear 24 = .ok (.lconst 1, 1) := by decide +kernel
theorem dX6_hear_25 : decode cX6_hear 25 = .ok (.ldc2_w 74, 3) := by decide +kernel
theorem dX6_hear_28 : decode cX6_hear 28 = .ok (.invokestatic 43, 3) := by decide +kernel
theorem dX6_hear_31 : decode cX6_hear 31 = .ok (.ifCond .ne 5, 3) := by decide +kernel
theorem dX6_hear_34 : decode cX6_hear 34 = .ok (.iconst (-1), 1) := by decide +kernel
theorem dX6_hear_35 : decode cX6_hear 35 = .ok (.ireturn, 1) := by decide +kernel
theorem dX6_hear_36 : decode cX6_hear 36 = .ok (.aload_n 0, 1) := by decide +kernel
theorem dX6_hear_37 : decode cX6_hear 37 = .ok (.iload_n 1, 1) := by decide +kernel
theorem dX6_hear_38 : decode cX6_hear 38 = .ok (.iload_n 2, 1) := by decide +kernel
theorem dX6_hear_39 : decode cX6_hear 39 = .ok (.iload_n 3, 1) := by decide +kernel
theorem dX6_hear_40 : decode cX6_hear 40 = .ok (.iload 4, 2) := by decide +kernel
theorem dX6_hear_42 : decode cX6_hear 42 = .ok (.invokevirtual 136, 3) := by decide +kernel
theorem dX6_hear_45 : decode cX6_hear 45 = .ok (.istore 6, 2) := by decide +kernel
theorem dX6_hear_47 : decode cX6_hear 47 = .ok (.iload 6, 2) := by decide +kernel
theorem dX6_hear_49 : decode cX6_hear 49 = .ok (.ifCond .ge 6, 3) := by decide +kernel
theorem dX6_hear_52 : decode cX6_hear 52 = .ok (.iload 6, 2) := by decide +kernel
theorem dX6_hear_54 : decode cX6_hear 54 = .ok (.ireturn, 1) := by decide +kernel
theorem dX6_hear_55 : decode cX6_hear 55 = .ok (.iconst 0, 1) := by decide +kernel
theorem dX6_hear_56 : decode cX6_hear 56 = .ok (.istore 7, 2) := by decide +kernel
theorem dX6_hear_58 : decode cX6_hear 58 = .ok (.iconst 1, 1) := by decide +kernel
theorem dX6_hear_59 : decode cX6_hear 59 = .ok (.istore 8, 2) := by decide +kernel
theorem dX6_hear_61 : decode cX6_hear 61 = .ok (.iconst 0, 1) := by decide +kernel
theorem dX6_hear_62 : decode cX6_hear 62 = .ok (.istore 9, 2) := by decide +kernel
theorem dX6_hear_64 : decode cX6_hear 64 = .ok (.iload 9, 2) := by decide +kernel
theorem dX6_hear_66 : decode cX6_hear 66 = .ok (.iload 4, 2) := by decide +kernel
theorem dX6_hear_68 : decode cX6_hear 68 = .ok (.if_icmp .ge 70, 3) := by decide +kernel
theorem dX6_hear_71 : decode cX6_hear 71 = .ok (.aload_n 0, 1) := by decide +kernel
theorem dX6_hear_72 : decode cX6_hear 72 = .ok (.getfield 40, 3) := by decide +kernel
theorem dX6_hear_75 : decode cX6_hear 75 = .ok (.bipush 24, 2) := by decide +kernel
theorem dX6_hear_77 : decode cX6_hear 77 = .ok (.iload_n 1, 1) := by decide +kernel
theorem dX6_hear_78 : decode cX6_hear 78 = .ok (.imul, 1) := by decide +kernel
theorem dX6_hear_79 : decode cX6_hear 79 = .ok (.iload_n 3, 1) := by decide +kernel
theorem dX6_hear_80 : decode cX6_hear 80 = .ok (.iadd, 1) := by decide +kernel
theorem dX6_hear_81 : decode cX6_hear 81 = .ok (.iload 9, 2) := by decide +kernel
theorem dX6_hear_83 : decode cX6_hear 83 = .ok (.iadd, 1) := by decide +kernel
theorem dX6_hear_84 : decode cX6_hear 84 = .ok (.iaload, 1) := by decide +kernel
theorem dX6_hear_85 : decode cX6_hear 85 = .ok (.istore 10, 2) := by decide +kernel
theorem dX6_hear_87 : decode cX6_hear 87 = .ok (.iload 8, 2) := by decide +kernel
theorem dX6_hear_89 : decode cX6_hear 89 = .ok (.ifCond .eq 13, 3) := by decide +kernel
theorem dX6_hear_92 : decode cX6_hear 92 = .ok (.iload 10, 2) := by decide +kernel
theorem dX6_hear_94 : decode cX6_hear 94 = .ok (.iconst 1, 1) := by decide +kernel
theorem dX6_hear_95 : decode cX6_hear 95 = .ok (.if_icmp .lt 7, 3) := by decide +kernel
theorem dX6_hear_98 : decode cX6_hear 98 = .ok (.iconst 1, 1) := by decide +kernel
theorem dX6_hear_99 : decode cX6_hear 99 = .ok (.goto 4, 3) := by decide +kernel
theorem dX6_hear_102 : decode cX6_hear 102 = .ok (.iconst 0, 1) := by decide +kernel
theorem dX6_hear_103 : decode cX6_hear 103 = .ok (.istore 8, 2) := by decide +kernel
theorem dX6_hear_105 : decode cX6_hear 105 = .ok (.iload 10, 2) := by decide +kernel
theorem dX6_hear_107 : decode cX6_hear 107 = .ok (.iload 5, 2) := by decide +kernel
theorem dX6_hear_109 : decode cX6_hear 109 = .ok (.if_icmp .lt 23, 3) := by decide +kernel
theorem dX6_hear_112 : decode cX6_hear 112 = .ok (.iinc 7 1, 3) := by decide +kernel
theorem dX6_hear_115 : decode cX6_hear 115 = .ok (.aload_n 0, 1) := by decide +kernel
theorem dX6_hear_116 : decode cX6_hear 116 = .ok (.iload 9, 2) := by decide +kernel
theorem dX6_hear_118 : decode cX6_hear 118 = .ok (.iconst 1, 1) := by decide +kernel
theorem dX6_hear_119 : decode cX6_hear 119 = .ok (.iadd, 1) := by decide +kernel
theorem dX6_hear_120 : decode cX6_hear 120 = .ok (.putfield 140, 3) := by decide +kernel
theorem dX6_hear_123 : decode cX6_hear 123 = .ok (.aload_n 0, 1) := by decide +kernel
theorem dX6_hear_124 : decode cX6_hear 124 = .ok (.iload 4, 2) := by decide +kernel
theorem dX6_hear_126 : decode cX6_hear 126 = .ok (.iload 9, 2) := by decide +kernel
theorem dX6_hear_128 : decode cX6_hear 128 = .ok (.isub, 1) := by decide +kernel
theorem dX6_hear_129 : decode cX6_hear 129 = .ok (.putfield 143, 3) := by decide +kernel
theorem dX6_hear_132 : decode cX6_hear 132 = .ok (.iinc 9 1, 3) := by decide +kernel
theorem dX6_hear_135 : decode cX6_hear 135 = .ok (.goto (-71), 3) := by decide +kernel
theorem dX6_hear_138 : decode cX6_hear 138 = .ok (.iload 8, 2) := by decide +kernel
theorem dX6_hear_140 : decode cX6_hear 140 = .ok (.ifCond .ne 8, 3) := by decide +kernel
theorem dX6_hear_143 : decode cX6_hear 143 = .ok (.bipush (-2), 2) := by decide +kernel
theorem dX6_hear_145 : decode cX6_hear 145 = .ok (.goto 15, 3) := by decide +kernel
theorem dX6_hear_148 : decode cX6_hear 148 = .ok (.iload 7, 2) := by decide +kernel
theorem dX6_hear_150 : decode cX6_hear 150 = .ok (.iconst 1, 1) := by decide +kernel
theorem dX6_hear_151 : decode cX6_hear 151 = .ok (.if_icmp .eq 8, 3) := by decide +kernel
theorem dX6_hear_154 : decode cX6_hear 154 = .ok (.bipush (-4), 2) := by decide +kernel
theorem dX6_hear_156 : decode cX6_hear 156 = .ok (.goto 4, 3) := by decide +kernel
theorem dX6_hear_159 : decode cX6_hear 159 = .ok (.iconst 0, 1) := by decide +kernel
theorem dX6_hear_160 : decode cX6_hear 160 = .ok (.ireturn, 1) := by decide +kernel
theorem dX6_isTold_0 : decode cX6_isTold 0 = .ok (.iload_n 0, 1) := by decide +kernel
theorem dX6_isTold_1 : decode cX6_isTold 1 = .ok (.i2l, 1) := by decide +kernel
theorem dX6_isTold_2 : decode cX6_isTold 2 = .ok (.lconst 1, 1) := by decide +kernel
theorem dX6_isTold_3 : decode cX6_isTold 3 = .ok (.ldc2_w 146, 3) := by decide +kernel
theorem dX6_isTold_6 : decode cX6_isTold 6 = .ok (.invokestatic 43, 3) := by decide +kernel
theorem dX6_isTold_9 : decode cX6_isTold 9 = .ok (.ifCond .eq 19, 3) := by decide +kernel
theorem dX6_isTold_12 : decode cX6_isTold 12 = .ok (.iload_n 1, 1) := by decide +kernel
theorem dX6_isTold_13 : decode cX6_isTold 13 = .ok (.i2l, 1) := by decide +kernel
theorem dX6_isTold_14 : decode cX6_isTold 14 = .ok (.lconst 1, 1) := by decide +kernel
theorem dX6_isTold_15 : decode cX6_isTold 15 = .ok (.ldc2_w 70, 3) := by decide +kernel
theorem dX6_isTold_18 : decode cX6_isTold 18 = .ok (.invokestatic 43, 3) := by decide +kernel
theorem dX6_isTold_21 : decode cX6_isTold 21 = .ok (.ifCond .eq 7, 3) := by decide +kernel
theorem dX6_isTold_24 : decode cX6_isTold 24 = .ok (.iconst 1, 1) := by decide +kernel
theorem dX6_isTold_25 : decode cX6_isTold 25 = .ok (.goto 4, 3) := by decide +kernel
theorem dX6_isTold_28 : decode cX6_isTold 28 = .ok (.iconst 0, 1) := by decide +kernel
theorem dX6_isTold_29 : decode cX6_isTold 29 = .ok (.ireturn, 1) := by decide +kernel
theorem dX6_songOf_0 : decode cX6_songOf 0 = .ok (.iconst 2, 1) := by decide +kernel
theorem dX6_songOf_1 : decode cX6_songOf 1 = .ok (.iload_n 0, 1) := by decide +kernel
theorem dX6_songOf_2 : decode cX6_songOf 2 = .ok (.iconst 1, 1) := by decide +kernel
theorem dX6_songOf_3 : decode cX6_songOf 3 = .ok (.isub, 1) := by decide +kernel
theorem dX6_songOf_4 : decode cX6_songOf 4 = .ok (.imul, 1) := by decide +kernel
theorem dX6_songOf_5 : decode cX6_songOf 5 = .ok (.iload_n 1, 1) := by decide +kernel
theorem dX6_songOf_6 : decode cX6_songOf 6 = .ok (.iadd, 1) := by decide +kernel
theorem dX6_songOf_7 : decode cX6_songOf 7 = .ok (.iconst 1, 1) := by decide +kernel
theorem dX6_songOf_8 : decode cX6_songOf 8 = .ok (.isub, 1) := by decide +kernel
theorem dX6_songOf_9 : decode cX6_songOf 9 = .ok (.ireturn, 1) := by decide +kernel
theorem dX6_heard_0 : decode cX6_heard 0 = .ok (.aload_n 0, 1) := by decide +kernel
theorem dX6_heard_1 : decode cX6_heard 1 = .ok (.iload_n 1, 1) := by decide +kernel
theorem dX6_heard_2 : decode cX6_heard 2 = .ok (.iload_n 2, 1) := by decide +kernel
theorem dX6_heard_3 : decode cX6_heard 3 = .ok (.iload_n 3, 1) := by decide +kernel
theorem dX6_heard_4 : decode cX6_heard 4 = .ok (.iload 4, 2) := by decide +kernel
theorem dX6_heard_6 : decode cX6_heard 6 = .ok (.iload 5, 2) := by decide +kernel
theorem dX6_heard_8 : decode cX6_heard 8 = .ok (.invokevirtual 148, 3) := by decide +kernel
theorem dX6_heard_11 : decode cX6_heard 11 = .ok (.istore 6, 2) := by decide +kernel
theorem dX6_heard_13 : decode cX6_heard 13 = .ok (.iload 6, 2) := by decide +kernel
theorem dX6_heard_15 : decode cX6_heard 15 = .ok (.ifCond .ge 8, 3) := by decide +kernel
theorem dX6_heard_18 : decode cX6_heard 18 = .ok (.iload 6, 2) := by decide +kernel
theorem dX6_heard_20 : decode cX6_heard 20 = .ok (.goto 33, 3) := by decide +kernel
theorem dX6_heard_23 : decode cX6_heard 23 = .ok (.aload_n 0, 1) := by decide +kernel
theorem dX6_heard_24 : decode cX6_heard 24 = .ok (.getfield 140, 3) := by decide +kernel
theorem dX6_heard_27 : decode cX6_heard 27 = .ok (.aload_n 0, 1) := by decide +kernel
theorem dX6_heard_28 : decode cX6_heard 28 = .ok (.getfield 143, 3) := by decide +kernel
theorem dX6_heard_31 : decode cX6_heard 31 = .ok (.invokestatic 152, 3) := by decide +kernel
theorem dX6_heard_34 : decode cX6_heard 34 = .ok (.ifCond .eq 17, 3) := by decide +kernel
theorem dX6_heard_37 : decode cX6_heard 37 = .ok (.aload_n 0, 1) := by decide +kernel
theorem dX6_heard_38 : decode cX6_heard 38 = .ok (.getfield 140, 3) := by decide +kernel
theorem dX6_heard_41 : decode cX6_heard 41 = .ok (.aload_n 0, 1) := by decide +kernel
theorem dX6_heard_42 : decode cX6_heard 42 = .ok (.getfield 143, 3) := by decide +kernel
theorem dX6_heard_45 : decode cX6_heard 45 = .ok (.invokestatic 155, 3) := by decide +kernel
theorem dX6_heard_48 : decode cX6_heard 48 = .ok (.goto 5, 3) := by decide +kernel
theorem dX6_heard_51 : decode cX6_heard 51 = .ok (.bipush (-4), 2) := by decide +kernel
theorem dX6_heard_53 : decode cX6_heard 53 = .ok (.ireturn, 1) := by decide +kernel
theorem dX6_mayBe_0 : decode cX6_mayBe 0 = .ok (.aload_n 0, 1) := by decide +kernel
theorem dX6_mayBe_1 : decode cX6_mayBe 1 = .ok (.iload_n 1, 1) := by decide +kernel
theorem dX6_mayBe_2 : decode cX6_mayBe 2 = .ok (.iload_n 2, 1) := by decide +kernel
theorem dX6_mayBe_3 : decode cX6_mayBe 3 = .ok (.iload_n 3, 1) := by decide +kernel
theorem dX6_mayBe_4 : decode cX6_mayBe 4 = .ok (.iload 4, 2) := by decide +kernel
theorem dX6_mayBe_6 : decode cX6_mayBe 6 = .ok (.iload 5, 2) := by decide +kernel
theorem dX6_mayBe_8 : decode cX6_mayBe 8 = .ok (.invokevirtual 148, 3) := by decide +kernel
theorem dX6_mayBe_11 : decode cX6_mayBe 11 = .ok (.istore 6, 2) := by decide +kernel
theorem dX6_mayBe_13 : decode cX6_mayBe 13 = .ok (.iload 6, 2) := by decide +kernel
theorem dX6_mayBe_15 : decode cX6_mayBe 15 = .ok (.ifCond .ge 6, 3) := by decide +kernel
theorem dX6_mayBe_18 : decode cX6_mayBe 18 = .ok (.iload 6, 2) := by decide +kernel
theorem dX6_mayBe_20 : decode cX6_mayBe 20 = .ok (.ireturn, 1) := by decide +kernel
theorem dX6_mayBe_21 : decode cX6_mayBe 21 = .ok (.aload_n 0, 1) := by decide +kernel
theorem dX6_mayBe_22 : decode cX6_mayBe 22 = .ok (.getfield 140, 3) := by decide +kernel
theorem dX6_mayBe_25 : decode cX6_mayBe 25 = .ok (.aload_n 0, 1) := by decide +kernel
theorem dX6_mayBe_26 : decode cX6_mayBe 26 = .ok (.getfield 143, 3) := by decide +kernel
theorem dX6_mayBe_29 : decode cX6_mayBe 29 = .ok (.invokestatic 152, 3) := by decide +kernel
theorem dX6_mayBe_32 : decode cX6_mayBe 32 = .ok (.ifCond .eq 19, 3) := by decide +kernel
theorem dX6_mayBe_35 : decode cX6_mayBe 35 = .ok (.iconst 1, 1) := by decide +kernel
theorem dX6_mayBe_36 : decode cX6_mayBe 36 = .ok (.aload_n 0, 1) := by decide +kernel
theorem dX6_mayBe_37 : decode cX6_mayBe 37 = .ok (.getfield 140, 3) := by decide +kernel
theorem dX6_mayBe_40 : decode cX6_mayBe 40 = .ok (.aload_n 0, 1) := by decide +kernel
theorem dX6_mayBe_41 : decode cX6_mayBe 41 = .ok (.getfield 143, 3) := by decide +kernel
theorem dX6_mayBe_44 : decode cX6_mayBe 44 = .ok (.invokestatic 155, 3) := by decide +kernel
theorem dX6_mayBe_47 : decode cX6_mayBe 47 = .ok (.ishl, 1) := by decide +kernel
theorem dX6_mayBe_48 : decode cX6_mayBe 48 = .ok (.goto 4, 3) := by decide +kernel
theorem dX6_mayBe_51 : decode cX6_mayBe 51 = .ok (.iconst 0, 1) := by decide +kernel
theorem dX6_mayBe_52 : decode cX6_mayBe 52 = .ok (.istore 7, 2) := by decide +kernel
theorem dX6_mayBe_54 : decode cX6_mayBe 54 = .ok (.iload 7, 2) := by decide +kernel
theorem dX6_mayBe_56 : decode cX6_mayBe 56 = .ok (.aload_n 0, 1) := by decide +kernel
theorem dX6_mayBe_57 : decode cX6_mayBe 57 = .ok (.getfield 140, 3) := by decide +kernel
theorem dX6_mayBe_60 : decode cX6_mayBe 60 = .ok (.iconst 1, 1) := by decide +kernel
theorem dX6_mayBe_61 : decode cX6_mayBe 61 = .ok (.iadd, 1) := by decide +kernel
theorem dX6_mayBe_62 : decode cX6_mayBe 62 = .ok (.aload_n 0, 1) := by decide +kernel
theorem dX6_mayBe_63 : decode cX6_mayBe 63 = .ok (.getfield 143, 3) := by decide +kernel
theorem dX6_mayBe_66 : decode cX6_mayBe 66 = .ok (.invokestatic 152, 3) := by decide +kernel
theorem dX6_mayBe_69 : decode cX6_mayBe 69 = .ok (.ifCond .eq 21, 3) := by decide +kernel
theorem dX6_mayBe_72 : decode cX6_mayBe 72 = .ok (.iconst 1, 1) := by decide +kernel
theorem dX6_mayBe_73 : decode cX6_mayBe 73 = .ok (.aload_n 0, 1) := by decide +kernel
theorem dX6_mayBe_74 : decode cX6_mayBe 74 = .ok (.getfield 140, 3) := by decide +kernel
theorem dX6_mayBe_77 : decode cX6_mayBe 77 = .ok (.iconst 1, 1) := by decide +kernel
theorem dX6_mayBe_78 : decode cX6_mayBe 78 = .ok (.iadd, 1) := by decide +kernel
theorem dX6_mayBe_79 : decode cX6_mayBe 79 = .ok (.aload_n 0, 1) := by decide +kernel
theorem dX6_mayBe_80 : decode cX6_mayBe 80 = .ok (.getfield 143, 3) := by decide +kernel
theorem dX6_mayBe_83 : decode cX6_mayBe 83 = .ok (.invokestatic 155, 3) := by decide +kernel
theorem dX6_mayBe_86 : decode cX6_mayBe 86 = .ok (.ishl, 1) := by decide +kernel
theorem dX6_mayBe_87 : decode cX6_mayBe 87 = .ok (.goto 4, 3) := by decide +kernel
theorem dX6_mayBe_90 : decode cX6_mayBe 90 = .ok (.iconst 0, 1) := by decide +kernel
theorem dX6_mayBe_91 : decode cX6_mayBe 91 = .ok (.ior, 1) := by decide +kernel
theorem dX6_mayBe_92 : decode cX6_mayBe 92 = .ok (.istore 7, 2) := by decide +kernel
theorem dX6_mayBe_94 : decode cX6_mayBe 94 = .ok (.iload 7, 2) := by decide +kernel
theorem dX6_mayBe_96 : decode cX6_mayBe 96 = .ok (.aload_n 0, 1) := by decide +kernel
theorem dX6_mayBe_97 : decode cX6_mayBe 97 = .ok (.getfield 140, 3) := by decide +kernel
theorem dX6_mayBe_100 : decode cX6_mayBe 100 = .ok (.aload_n 0, 1) := by decide +kernel
theorem dX6_mayBe_101 : decode cX6_mayBe 101 = .ok (.getfield 143, 3) := by decide +kernel
theorem dX6_mayBe_104 : decode cX6_mayBe 104 = .ok (.iconst 1, 1) := by decide +kernel
theorem dX6_mayBe_105 : decode cX6_mayBe 105 = .ok (.iadd, 1) := by decide +kernel
theorem dX6_mayBe_106 : decode cX6_mayBe 106 = .ok (.invokestatic 152, 3) := by decide +kernel
theorem dX6_mayBe_109 : decode cX6_mayBe 109 = .ok (.ifCond .eq 21, 3) := by decide +kernel
theorem dX6_mayBe_112 : decode cX6_mayBe 112 = .ok (.iconst 1, 1) := by decide +kernel
theorem dX6_mayBe_113 : decode cX6_mayBe 113 = .ok (.aload_n 0, 1) := by decide +kernel
theorem dX6_mayBe_114 : decode cX6_mayBe 114 = .ok (.getfield 140, 3) := by decide +kernel
theorem dX6_mayBe_117 : decode cX6_mayBe 117 = .ok (.aload_n 0, 1) := by decide +kernel
theorem dX6_mayBe_118 : decode cX6_mayBe 118 = .ok (.getfield 143, 3) := by decide +kernel
theorem dX6_mayBe_121 : decode cX6_mayBe 121 = .ok (.iconst 1, 1) := by decide +kernel
theorem dX6_mayBe_122 : decode cX6_mayBe 122 = .ok (.iadd, 1) := by decide +kernel
theorem dX6_mayBe_123 : decode cX6_mayBe 123 = .ok (.invokestatic 155, 3) := by decide +kernel
theorem dX6_mayBe_126 : decode cX6_mayBe 126 = .ok (.ishl, 1) := by decide +kernel
theorem dX6_mayBe_127 : decode cX6_mayBe 127 = .ok (.goto 4, 3) := by decide +kernel
theorem dX6_mayBe_130 : decode cX6_mayBe 130 = .ok (.iconst 0, 1) := by decide +kernel
theorem dX6_mayBe_131 : decode cX6_mayBe 131 = .ok (.ior, 1) := by decide +kernel
theorem dX6_mayBe_132 : decode cX6_mayBe 132 = .ok (.istore 7, 2) := by decide +kernel
theorem dX6_mayBe_134 : decode cX6_mayBe 134 = .ok (.iload 7, 2) := by decide +kernel
theorem dX6_mayBe_136 : decode cX6_mayBe 136 = .ok (.ifCond .ne 8, 3) := by decide +kernel
theorem dX6_mayBe_139 : decode cX6_mayBe 139 = .ok (.bipush (-4), 2) := by decide +kernel
theorem dX6_mayBe_141 : decode cX6_mayBe 141 = .ok (.goto 5, 3) := by decide +kernel
theorem dX6_mayBe_144 : decode cX6_mayBe 144 = .ok (.iload 7, 2) := by decide +kernel
theorem dX6_mayBe_146 : decode cX6_mayBe 146 = .ok (.ireturn, 1) := by decide +kernel
theorem dX6_type_0 : decode cX6_type 0 = .ok (.iload_n 3, 1) := by decide +kernel
theorem dX6_type_1 : decode cX6_type 1 = .ok (.i2l, 1) := by decide +kernel
theorem dX6_type_2 : decode cX6_type 2 = .ok (.lconst 1, 1) := by decide +kernel
theorem dX6_type_3 : decode cX6_type 3 = .ok (.ldc2_w 159, 3) := by decide +kernel
theorem dX6_type_6 : decode cX6_type 6 = .ok (.invokestatic 43, 3) := by decide +kernel
theorem dX6_type_9 : decode cX6_type 9 = .ok (.ifCond .ne 5, 3) := by decide +kernel
theorem dX6_type_12 : decode cX6_type 12 = .ok (.iconst (-1), 1) := by decide +kernel
theorem dX6_type_13 : decode cX6_type 13 = .ok (.ireturn, 1) := by decide +kernel
theorem dX6_type_14 : decode cX6_type 14 = .ok (.iload_n 3, 1) := by decide +kernel
theorem dX6_type_15 : decode cX6_type 15 = .ok (.iconst 1, 1) := by decide +kernel
theorem dX6_type_16 : decode cX6_type 16 = .ok (.isub, 1) := by decide +kernel
theorem dX6_type_17 : decode cX6_type 17 = .ok (.istore 4, 2) := by decide +kernel
theorem dX6_type_19 : decode cX6_type 19 = .ok (.iload 4, 2) := by decide +kernel
theorem dX6_type_21 : decode cX6_type 21 = .ok (.ifCond .lt 34, 3) := by decide +kernel
theorem dX6_type_24 : decode cX6_type 24 = .ok (.lload_n 1, 1) := by decide +kernel
theorem dX6_type_25 : decode cX6_type 25 = .ok (.bipush 8, 2) := by decide +kernel
theorem dX6_type_27 : decode cX6_type 27 = .ok (.iload 4, 2) := by decide +kernel
theorem dX6_type_29 : decode cX6_type 29 = .ok (.imul, 1) := by decide +kernel
theorem dX6_type_30 : decode cX6_type 30 = .ok (.lshr, 1) := by decide +kernel
theorem dX6_type_31 : decode cX6_type 31 = .ok (.ldc2_w 161, 3) := by decide +kernel
theorem dX6_type_34 : decode cX6_type 34 = .ok (.land, 1) := by decide +kernel
theorem dX6_type_35 : decode cX6_type 35 = .ok (.ldc2_w 163, 3) := by decide +kernel
theorem dX6_type_38 : decode cX6_type 38 = .ok (.ldc2_w 165, 3) := by decide +kernel
theorem dX6_type_41 : decode cX6_type 41 = .ok (.invokestatic 43, 3) := by decide +kernel
theorem dX6_type_44 : decode cX6_type 44 = .ok (.ifCond .ne 5, 3) := by decide +kernel
theorem dX6_type_47 : decode cX6_type 47 = .ok (.iconst (-1), 1) := by decide +kernel
theorem dX6_type_48 : decode cX6_type 48 = .ok (.ireturn, 1) := by decide +kernel
theorem dX6_type_49 : decode cX6_type 49 = .ok (.iinc 4 (-1), 3) := by decide +kernel
theorem dX6_type_52 : decode cX6_type 52 = .ok (.goto (-33), 3) := by decide +kernel
theorem dX6_type_55 : decode cX6_type 55 = .ok (.aload_n 0, 1) := by decide +kernel
theorem dX6_type_56 : decode cX6_type 56 = .ok (.getfield 167, 3) := by decide +kernel
theorem dX6_type_59 : decode cX6_type 59 = .ok (.iload_n 3, 1) := by decide +kernel
theorem dX6_type_60 : decode cX6_type 60 = .ok (.iadd, 1) := by decide +kernel
theorem dX6_type_61 : decode cX6_type 61 = .ok (.bipush 80, 2) := by decide +kernel
theorem dX6_type_63 : decode cX6_type 63 = .ok (.if_icmp .le 6, 3) := by decide +kernel
theorem dX6_type_66 : decode cX6_type 66 = .ok (.bipush (-3), 2) := by decide +kernel
theorem dX6_type_68 : decode cX6_type 68 = .ok (.ireturn, 1) := by decide +kernel
theorem dX6_type_69 : decode cX6_type 69 = .ok (.iload_n 3, 1) := by decide +kernel
theorem dX6_type_70 : decode cX6_type 70 = .ok (.iconst 1, 1) := by decide +kernel
theorem dX6_type_71 : decode cX6_type 71 = .ok (.isub, 1) := by decide +kernel
theorem dX6_type_72 : decode cX6_type 72 = .ok (.istore 4, 2) := by decide +kernel
theorem dX6_type_74 : decode cX6_type 74 = .ok (.iload 4, 2) := by decide +kernel
theorem dX6_type_76 : decode cX6_type 76 = .ok (.ifCond .lt 40, 3) := by decide +kernel
theorem dX6_type_79 : decode cX6_type 79 = .ok (.aload_n 0, 1) := by decide +kernel
theorem dX6_type_80 : decode cX6_type 80 = .ok (.getfield 22, 3) := by decide +kernel
theorem dX6_type_83 : decode cX6_type 83 = .ok (.aload_n 0, 1) := by decide +kernel
theorem dX6_type_84 : decode cX6_type 84 = .ok (.getfield 167, 3) := by decide +kernel
theorem dX6_type_87 : decode cX6_type 87 = .ok (.lload_n 1, 1) := by decide +kernel
theorem dX6_type_88 : decode cX6_type 88 = .ok (.bipush 8, 2) := by decide +kernel
theorem dX6_type_90 : decode cX6_type 90 = .ok (.iload 4, 2) := by decide +kernel
theorem dX6_type_92 : decode cX6_type 92 = .ok (.imul, 1) := by decide +kernel
theorem dX6_type_93 : decode cX6_type 93 = .ok (.lshr, 1) := by decide +kernel
theorem dX6_type_94 : decode cX6_type 94 = .ok (.ldc2_w 161, 3) := by decide +kernel
theorem dX6_type_97 : decode cX6_type 97 = .ok (.land, 1) := by decide +kernel
theorem dX6_type_98 : decode cX6_type 98 = .ok (.l2i, 1) := by decide +kernel
theorem dX6_type_99 : decode cX6_type 99 = .ok (.iastore, 1) := by decide +kernel
theorem dX6_type_100 : decode cX6_type 100 = .ok (.aload_n 0, 1) := by decide +kernel
theorem dX6_type_101 : decode cX6_type 101 = .ok (.dup, 1) := by decide +kernel
theorem dX6_type_102 : decode cX6_type 102 = .ok (.getfield 167, 3) := by decide +kernel
theorem dX6_type_105 : decode cX6_type 105 = .ok (.iconst 1, 1) := by decide +kernel
theorem dX6_type_106 : decode cX6_type 106 = .ok (.iadd, 1) := by decide +kernel
theorem dX6_type_107 : decode cX6_type 107 = .ok (.putfield 167, 3) := by decide +kernel
theorem dX6_type_110 : decode cX6_type 110 = .ok (.iinc 4 (-1), 3) := by decide +kernel
theorem dX6_type_113 : decode cX6_type 113 = .ok (.goto (-39), 3) := by decide +kernel
theorem dX6_type_116 : decode cX6_type 116 = .ok (.aload_n 0, 1) := by decide +kernel
theorem dX6_type_117 : decode cX6_type 117 = .ok (.getfield 167, 3) := by decide +kernel
theorem dX6_type_120 : decode cX6_type 120 = .ok (.ireturn, 1) := by decide +kernel
theorem dX6_nextByte_0 : decode cX6_nextByte 0 = .ok (.aload_n 0, 1) := by decide +kernel
theorem dX6_nextByte_1 : decode cX6_nextByte 1 = .ok (.getfield 170, 3) := by decide +kernel
theorem dX6_nextByte_4 : decode cX6_nextByte 4 = .ok (.aload_n 0, 1) := by decide +kernel
theorem dX6_nextByte_5 : decode cX6_nextByte 5 = .ok (.getfield 167, 3) := by decide +kernel
theorem dX6_nextByte_8 : decode cX6_nextByte 8 = .ok (.if_icmp .ge 30, 3) := by decide +kernel
theorem dX6_nextByte_11 : decode cX6_nextByte 11 = .ok (.aload_n 0, 1) := by decide +kernel
theorem dX6_nextByte_12 : decode cX6_nextByte 12 = .ok (.getfield 22, 3) := by decide +kernel
theorem dX6_nextByte_15 : decode cX6_nextByte 15 = .ok (.aload_n 0, 1) := by decide +kernel
theorem dX6_nextByte_16 : decode cX6_nextByte 16 = .ok (.getfield 170, 3) := by decide +kernel
theorem dX6_nextByte_19 : decode cX6_nextByte 19 = .ok (.iaload, 1) := by decide +kernel
theorem dX6_nextByte_20 : decode cX6_nextByte 20 = .ok (.bipush 32, 2) := by decide +kernel
theorem dX6_nextByte_22 : decode cX6_nextByte 22 = .ok (.if_icmp .ne 16, 3) := by decide +kernel
theorem dX6_nextByte_25 : decode cX6_nextByte 25 = .ok (.aload_n 0, 1) := by decide +kernel
theorem dX6_nextByte_26 : decode cX6_nextByte 26 = .ok (.dup, 1) := by decide +kernel
theorem dX6_nextByte_27 : decode cX6_nextByte 27 = .ok (.getfield 170, 3) := by decide +kernel
theorem dX6_nextByte_30 : decode cX6_nextByte 30 = .ok (.iconst 1, 1) := by decide +kernel
theorem dX6_nextByte_31 : decode cX6_nextByte 31 = .ok (.iadd, 1) := by decide +kernel
theorem dX6_nextByte_32 : decode cX6_nextByte 32 = .ok (.putfield 170, 3) := by decide +kernel
theorem dX6_nextByte_35 : decode cX6_nextByte 35 = .ok (.goto (-35), 3) := by decide +kernel
theorem dX6_nextByte_38 : decode cX6_nextByte 38 = .ok (.aload_n 0, 1) := by decide +kernel
theorem dX6_nextByte_39 : decode cX6_nextByte 39 = .ok (.getfield 170, 3) := by decide +kernel
theorem dX6_nextByte_42 : decode cX6_nextByte 42 = .ok (.aload_n 0, 1) := by decide +kernel
theorem dX6_nextByte_43 : decode cX6_nextByte 43 = .ok (.getfield 167, 3) := by decide +kernel
theorem dX6_nextByte_46 : decode cX6_nextByte 46 = .ok (.if_icmp .ge 15, 3) := by decide +kernel
theorem dX6_nextByte_49 : decode cX6_nextByte 49 = .ok (.aload_n 0, 1) := by decide +kernel
theorem dX6_nextByte_50 : decode cX6_nextByte 50 = .ok (.getfield 22, 3) := by decide +kernel
theorem dX6_nextByte_53 : decode cX6_nextByte 53 = .ok (.aload_n 0, 1) := by decide +kernel
theorem dX6_nextByte_54 : decode cX6_nextByte 54 = .ok (.getfield 170, 3) := by decide +kernel
theorem dX6_nextByte_57 : decode cX6_nextByte 57 = .ok (.iaload, 1) := by decide +kernel
theorem dX6_nextByte_58 : decode cX6_nextByte 58 = .ok (.goto 4, 3) := by decide +kernel
theorem dX6_nextByte_61 : decode cX6_nextByte 61 = .ok (.iconst (-1), 1) := by decide +kernel
theorem dX6_nextByte_62 : decode cX6_nextByte 62 = .ok (.ireturn, 1) := by decide +kernel
theorem dX6_readNumber_0 : decode cX6_readNumber 0 = .ok (.aload_n 0, 1) := by decide +kernel
theorem dX6_readNumber_1 : decode cX6_readNumber 1 = .ok (.invokevirtual 173, 3) := by decide +kernel
theorem dX6_readNumber_4 : decode cX6_readNumber 4 = .ok (.pop, 1) := by decide +kernel
theorem dX6_readNumber_5 : decode cX6_readNumber 5 = .ok (.aload_n 0, 1) := by decide +kernel
theorem dX6_readNumber_6 : decode cX6_readNumber 6 = .ok (.getfield 170, 3) := by decide +kernel
theorem dX6_readNumber_9 : decode cX6_readNumber 9 = .ok (.istore_n 2, 1) := by decide +kernel
theorem dX6_readNumber_10 : decode cX6_readNumber 10 = .ok (.iconst 0, 1) := by decide +kernel
theorem dX6_readNumber_11 : decode cX6_readNumber 11 = .ok (.istore_n 3, 1) := by decide +kernel
theorem dX6_readNumber_12 : decode cX6_readNumber 12 = .ok (.aload_n 0, 1) := by decide +kernel
theorem dX6_readNumber_13 : decode cX6_readNumber 13 = .ok (.getfield 170, 3) := by decide +kernel
theorem dX6_readNumber_16 : decode cX6_readNumber 16 = .ok (.aload_n 0, 1) := by decide +kernel
theorem dX6_readNumber_17 : decode cX6_readNumber 17 = .ok (.getfield 167, 3) := by decide +kernel
theorem dX6_readNumber_20 : decode cX6_readNumber 20 = .ok (.if_icmp .ge 67, 3) := by decide +kernel
theorem dX6_readNumber_23 : decode cX6_readNumber 23 = .ok (.aload_n 0, 1) := by decide +kernel
theorem dX6_readNumber_24 : decode cX6_readNumber 24 = .ok (.getfield 22, 3) := by decide +kernel
theorem dX6_readNumber_27 : decode cX6_readNumber 27 = .ok (.aload_n 0, 1) := by decide +kernel
theorem dX6_readNumber_28 : decode cX6_readNumber 28 = .ok (.getfield 170, 3) := by decide +kernel
theorem dX6_readNumber_31 : decode cX6_readNumber 31 = .ok (.iaload, 1) := by decide +kernel
theorem dX6_readNumber_32 : decode cX6_readNumber 32 = .ok (.i2l, 1) := by decide +kernel
theorem dX6_readNumber_33 : decode cX6_readNumber 33 = .ok (.ldc2_w 176, 3) := by decide +kernel
theorem dX6_readNumber_36 : decode cX6_readNumber 36 = .ok (.ldc2_w 178, 3) := by decide +kernel
theorem dX6_readNumber_39 : decode cX6_readNumber 39 = .ok (.invokestatic 43, 3) := by decide +kernel
theorem dX6_readNumber_42 : decode cX6_readNumber 42 = .ok (.ifCond .eq 45, 3) := by decide +kernel
theorem dX6_readNumber_45 : decode cX6_readNumber 45 = .ok (.iload_n 3, 1) := by decide +kernel
theorem dX6_readNumber_46 : decode cX6_readNumber 46 = .ok (.sipush 9999, 3) := by decide +kernel
theorem dX6_readNumber_49 : decode cX6_readNumber 49 = .ok (.if_icmp .le 7, 3) := by decide +kernel
theorem dX6_readNumber_52 : decode cX6_readNumber 52 = .ok (.iload_n 3, 1) := by decide +kernel
theorem dX6_readNumber_53 : decode cX6_readNumber 53 = .ok (.goto 20, 3) := by decide +kernel
theorem dX6_readNumber_56 : decode cX6_readNumber 56 = .ok (.bipush 10, 2) := by decide +kernel
theorem dX6_readNumber_58 : decode cX6_readNumber 58 = .ok (.iload_n 3, 1) := by decide +kernel
theorem dX6_readNumber_59 : decode cX6_readNumber 59 = .ok (.imul, 1) := by decide +kernel
theorem dX6_readNumber_60 : decode cX6_readNumber 60 = .ok (.aload_n 0, 1) := by decide +kernel
theorem dX6_readNumber_61 : decode cX6_readNumber 61 = .ok (.getfield 22, 3) := by decide +kernel
theorem dX6_readNumber_64 : decode cX6_readNumber 64 = .ok (.aload_n 0, 1) := by decide +kernel
theorem dX6_readNumber_65 : decode cX6_readNumber 65 = .ok (.getfield 170, 3) := by decide +kernel
theorem dX6_readNumber_68 : decode cX6_readNumber 68 = .ok (.iaload, 1) := by decide +kernel
theorem dX6_readNumber_69 : decode cX6_readNumber 69 = .ok (.iadd, 1) := by decide +kernel
theorem dX6_readNumber_70 : decode cX6_readNumber 70 = .ok (.bipush 48, 2) := by decide +kernel
theorem dX6_readNumber_72 : decode cX6_readNumber 72 = .ok (.isub, 1) := by decide +kernel
theorem dX6_readNumber_73 : decode cX6_readNumber 73 = .ok (.istore_n 3, 1) := by decide +kernel
theorem dX6_readNumber_74 : decode cX6_readNumber 74 = .ok (.aload_n 0, 1) := by decide +kernel
theorem dX6_readNumber_75 : decode cX6_readNumber 75 = .ok (.dup, 1) := by decide +kernel
theorem dX6_readNumber_76 : decode cX6_readNumber 76 = .ok (.getfield 170, 3) := by decide +kernel
theorem dX6_readNumber_79 : decode cX6_readNumber 79 = .ok (.iconst 1, 1) := by decide +kernel
theorem dX6_readNumber_80 : decode cX6_readNumber 80 = .ok (.iadd, 1) := by decide +kernel
theorem dX6_readNumber_81 : decode cX6_readNumber 81 = .ok (.putfield 170, 3) := by decide +kernel
theorem dX6_readNumber_84 : decode cX6_readNumber 84 = .ok (.goto (-72), 3) := by decide +kernel
theorem dX6_readNumber_87 : decode cX6_readNumber 87 = .ok (.aload_n 0, 1) := by decide +kernel
theorem dX6_readNumber_88 : decode cX6_readNumber 88 = .ok (.getfield 170, 3) := by decide +kernel
theorem dX6_readNumber_91 : decode cX6_readNumber 91 = .ok (.iload_n 2, 1) := by decide +kernel
theorem dX6_readNumber_92 : decode cX6_readNumber 92 = .ok (.if_icmp .ne 5, 3) := by decide +kernel
theorem dX6_readNumber_95 : decode cX6_readNumber 95 = .ok (.iconst (-1), 1) := by decide +kernel
theorem dX6_readNumber_96 : decode cX6_readNumber 96 = .ok (.ireturn, 1) := by decide +kernel
theorem dX6_readNumber_97 : decode cX6_readNumber 97 = .ok (.iload_n 3, 1) := by decide +kernel
theorem dX6_readNumber_98 : decode cX6_readNumber 98 = .ok (.i2l, 1) := by decide +kernel
theorem dX6_readNumber_99 : decode cX6_readNumber 99 = .ok (.lconst 1, 1) := by decide +kernel
theorem dX6_readNumber_100 : decode cX6_readNumber 100 = .ok (.iload_n 1, 1) := by decide +kernel
theorem dX6_readNumber_101 : decode cX6_readNumber 101 = .ok (.i2l, 1) := by decide +kernel
theorem dX6_readNumber_102 : decode cX6_readNumber 102 = .ok (.invokestatic 43, 3) := by decide +kernel
theorem dX6_readNumber_105 : decode cX6_readNumber 105 = .ok (.ifCond .ne 10, 3) := by decide +kernel
theorem dX6_readNumber_108 : decode cX6_readNumber 108 = .ok (.aload_n 0, 1) := by decide +kernel
theorem dX6_readNumber_109 : decode cX6_readNumber 109 = .ok (.iload_n 2, 1) := by decide +kernel
theorem dX6_readNumber_110 : decode cX6_readNumber 110 = .ok (.putfield 170, 3) := by decide +kernel
theorem dX6_readNumber_113 : decode cX6_readNumber 113 = .ok (.iconst (-1), 1) := by decide +kernel
theorem dX6_readNumber_114 : decode cX6_readNumber 114 = .ok (.ireturn, 1) := by decide +kernel
theorem dX6_readNumber_115 : decode cX6_readNumber 115 = .ok (.iload_n 3, 1) := by decide +kernel
theorem dX6_readNumber_116 : decode cX6_readNumber 116 = .ok (.ireturn, 1) := by decide +kernel
theorem dX6_readAct_0 : decode cX6_readAct 0 = .ok (.aload_n 0, 1) := by decide +kernel
theorem dX6_readAct_1 : decode cX6_readAct 1 = .ok (.invokevirtual 173, 3) := by decide +kernel
theorem dX6_readAct_4 : decode cX6_readAct 4 = .ok (.istore_n 1, 1) := by decide +kernel
theorem dX6_readAct_5 : decode cX6_readAct 5 = .ok (.iload_n 1, 1) := by decide +kernel
theorem dX6_readAct_6 : decode cX6_readAct 6 = .ok (.i2l, 1) := by decide +kernel
theorem dX6_readAct_7 : decode cX6_readAct 7 = .ok (.ldc2_w 180, 3) := by decide +kernel
theorem dX6_readAct_10 : decode cX6_readAct 10 = .ok (.ldc2_w 182, 3) := by decide +kernel
theorem dX6_readAct_13 : decode cX6_readAct 13 = .ok (.invokestatic 43, 3) := by decide +kernel
theorem dX6_readAct_16 : decode cX6_readAct 16 = .ok (.ifCond .eq 73, 3) := by decide +kernel
theorem dX6_readAct_19 : decode cX6_readAct 19 = .ok (.aload_n 0, 1) := by decide +kernel
theorem dX6_readAct_20 : decode cX6_readAct 20 = .ok (.dup, 1) := by decide +kernel
theorem dX6_readAct_21 : decode cX6_readAct 21 = .ok (.getfield 170, 3) := by decide +kernel
theorem dX6_readAct_24 : decode cX6_readAct 24 = .ok (.iconst 1, 1) := by decide +kernel
theorem dX6_readAct_25 : decode cX6_readAct 25 = .ok (.iadd, 1) := by decide +kernel
theorem dX6_readAct_26 : decode cX6_readAct 26 = .ok (.putfield 170, 3) := by decide +kernel
theorem dX6_readAct_29 : decode cX6_readAct 29 = .ok (.aload_n 0, 1) := by decide +kernel
theorem dX6_readAct_30 : decode cX6_readAct 30 = .ok (.invokevirtual 173, 3) := by decide +kernel
theorem dX6_readAct_33 : decode cX6_readAct 33 = .ok (.bipush 49, 2) := by decide +kernel
theorem dX6_readAct_35 : decode cX6_readAct 35 = .ok (.isub, 1) := by decide +kernel
theorem dX6_readAct_36 : decode cX6_readAct 36 = .ok (.istore_n 2, 1) := by decide +kernel
theorem dX6_readAct_37 : decode cX6_readAct 37 = .ok (.iload_n 2, 1) := by decide +kernel
theorem dX6_readAct_38 : decode cX6_readAct 38 = .ok (.i2l, 1) := by decide +kernel
theorem dX6_readAct_39 : decode cX6_readAct 39 = .ok (.lconst 0, 1) := by decide +kernel
theorem dX6_readAct_40 : decode cX6_readAct 40 = .ok (.lconst 1, 1) := by decide +kernel
theorem dX6_readAct_41 : decode cX6_readAct 41 = .ok (.invokestatic 43, 3) := by decide +kernel
theorem dX6_readAct_44 : decode cX6_readAct 44 = .ok (.ifCond .ne 5, 3) := by decide +kernel
theorem dX6_readAct_47 : decode cX6_readAct 47 = .ok (.iconst 0, 1) := by decide +kernel
theorem dX6_readAct_48 : decode cX6_readAct 48 = .ok (.ireturn, 1) := by decide +kernel
theorem dX6_readAct_49 : decode cX6_readAct 49 = .ok (.aload_n 0, 1) := by decide +kernel
theorem dX6_readAct_50 : decode cX6_readAct 50 = .ok (.dup, 1) := by decide +kernel
theorem dX6_readAct_51 : decode cX6_readAct 51 = .ok (.getfield 170, 3) := by decide +kernel
theorem dX6_readAct_54 : decode cX6_readAct 54 = .ok (.iconst 1, 1) := by decide +kernel
theorem dX6_readAct_55 : decode cX6_readAct 55 = .ok (.iadd, 1) := by decide +kernel
theorem dX6_readAct_56 : decode cX6_readAct 56 = .ok (.putfield 170, 3) := by decide +kernel
theorem dX6_readAct_59 : decode cX6_readAct 59 = .ok (.aload_n 0, 1) := by decide +kernel
theorem dX6_readAct_60 : decode cX6_readAct 60 = .ok (.getfield 25, 3) := by decide +kernel
theorem dX6_readAct_63 : decode cX6_readAct 63 = .ok (.aload_n 0, 1) := by decide +kernel
theorem dX6_readAct_64 : decode cX6_readAct 64 = .ok (.getfield 184, 3) := by decide +kernel
theorem dX6_readAct_67 : decode cX6_readAct 67 = .ok (.iconst 0, 1) := by decide +kernel
theorem dX6_readAct_68 : decode cX6_readAct 68 = .ok (.iastore, 1) := by decide +kernel
theorem dX6_readAct_69 : decode cX6_readAct 69 = .ok (.aload_n 0, 1) := by decide +kernel
theorem dX6_readAct_70 : decode cX6_readAct 70 = .ok (.getfield 28, 3) := by decide +kernel
theorem dX6_readAct_73 : decode cX6_readAct 73 = .ok (.aload_n 0, 1) := by decide +kernel
theorem dX6_readAct_74 : decode cX6_readAct 74 = .ok (.getfield 184, 3) := by decide +kernel
theorem dX6_readAct_77 : decode cX6_readAct 77 = .ok (.iconst 2, 1) := by decide +kernel
theorem dX6_readAct_78 : decode cX6_readAct 78 = .ok (.iload_n 1, 1) := by decide +kernel
theorem dX6_readAct_79 : decode cX6_readAct 79 = .ok (.bipush 97, 2) := by decide +kernel
theorem dX6_readAct_81 : decode cX6_readAct 81 = .ok (.isub, 1) := by decide +kernel
theorem dX6_readAct_82 : decode cX6_readAct 82 = .ok (.imul, 1) := by decide +kernel
theorem dX6_readAct_83 : decode cX6_readAct 83 = .ok (.iload_n 2, 1) := by decide +kernel
theorem dX6_readAct_84 : decode cX6_readAct 84 = .ok (.iadd, 1) := by decide +kernel
theorem dX6_readAct_85 : decode cX6_readAct 85 = .ok (.iastore, 1) := by decide +kernel
theorem dX6_readAct_86 : decode cX6_readAct 86 = .ok (.goto 88, 3) := by decide +kernel
theorem dX6_readAct_89 : decode cX6_readAct 89 = .ok (.iload_n 1, 1) := by decide +kernel
theorem dX6_readAct_90 : decode cX6_readAct 90 = .ok (.bipush 43, 2) := by decide +kernel
theorem dX6_readAct_92 : decode cX6_readAct 92 = .ok (.if_icmp .eq 9, 3) := by decide +kernel
theorem dX6_readAct_95 : decode cX6_readAct 95 = .ok (.iload_n 1, 1) := by decide +kernel
theorem dX6_readAct_96 : decode cX6_readAct 96 = .ok (.bipush 116, 2) := by decide +kernel
theorem dX6_readAct_98 : decode cX6_readAct 98 = .ok (.if_icmp .ne 74, 3) := by decide +kernel
theorem dX6_readAct_101 : decode cX6_readAct 101 = .ok (.aload_n 0, 1) := by decide +kernel
theorem dX6_readAct_102 : decode cX6_readAct 102 = .ok (.dup, 1) := by decide +kernel
theorem dX6_readAct_103 : decode cX6_readAct 103 = .ok (.getfield 170, 3) := by decide +kernel
theorem dX6_readAct_106 : decode cX6_readAct 106 = .ok (.iconst 1, 1) := by decide +kernel
theorem dX6_readAct_107 : decode cX6_readAct 107 = .ok (.iadd, 1) := by decide +kernel
theorem dX6_readAct_108 : decode cX6_readAct 108 = .ok (.putfield 170, 3) := by decide +kernel
theorem dX6_readAct_111 : decode cX6_readAct 111 = .ok (.aload_n 0, 1) := by decide +kernel
theorem dX6_readAct_112 : decode cX6_readAct 112 = .ok (.getfield 25, 3) := by decide +kernel
theorem dX6_readAct_115 : decode cX6_readAct 115 = .ok (.aload_n 0, 1) := by decide +kernel
theorem dX6_readAct_116 : decode cX6_readAct 116 = .ok (.getfield 184, 3) := by decide +kernel
theorem dX6_readAct_119 : decode cX6_readAct 119 = .ok (.iload_n 1, 1) := by decide +kernel
theorem dX6_readAct_120 : decode cX6_readAct 120 = .ok (.bipush 43, 2) := by decide +kernel
theorem dX6_readAct_122 : decode cX6_readAct 122 = .ok (.if_icmp .ne 7, 3) := by decide +kernel
theorem dX6_readAct_125 : decode cX6_readAct 125 = .ok (.iconst 1, 1) := by decide +kernel
theorem dX6_readAct_126 : decode cX6_readAct 126 = .ok (.goto 4, 3) := by decide +kernel
theorem dX6_readAct_129 : decode cX6_readAct 129 = .ok (.iconst 2, 1) := by decide +kernel
theorem dX6_readAct_130 : decode cX6_readAct 130 = .ok (.iastore, 1) := by decide +kernel
theorem dX6_readAct_131 : decode cX6_readAct 131 = .ok (.aload_n 0, 1) := by decide +kernel
theorem dX6_readAct_132 : decode cX6_readAct 132 = .ok (.getfield 28, 3) := by decide +kernel
theorem dX6_readAct_135 : decode cX6_readAct 135 = .ok (.aload_n 0, 1) := by decide +kernel
theorem dX6_readAct_136 : decode cX6_readAct 136 = .ok (.getfield 184, 3) := by decide +kernel
theorem dX6_readAct_139 : decode cX6_readAct 139 = .ok (.aload_n 0, 1) := by decide +kernel
theorem dX6_readAct_140 : decode cX6_readAct 140 = .ok (.iload_n 1, 1) := by decide +kernel
theorem dX6_readAct_141 : decode cX6_readAct 141 = .ok (.bipush 43, 2) := by decide +kernel
theorem dX6_readAct_143 : decode cX6_readAct 143 = .ok (.if_icmp .ne 8, 3) := by decide +kernel
theorem dX6_readAct_146 : decode cX6_readAct 146 = .ok (.bipush 99, 2) := by decide +kernel
theorem dX6_readAct_148 : decode cX6_readAct 148 = .ok (.goto 6, 3) := by decide +kernel
theorem dX6_readAct_151 : decode cX6_readAct 151 = .ok (.sipush 999, 3) := by decide +kernel
theorem dX6_readAct_154 : decode cX6_readAct 154 = .ok (.invokevirtual 187, 3) := by decide +kernel
theorem dX6_readAct_157 : decode cX6_readAct 157 = .ok (.iastore, 1) := by decide +kernel
theorem dX6_readAct_158 : decode cX6_readAct 158 = .ok (.aload_n 0, 1) := by decide +kernel
theorem dX6_readAct_159 : decode cX6_readAct 159 = .ok (.getfield 28, 3) := by decide +kernel
theorem dX6_readAct_162 : decode cX6_readAct 162 = .ok (.aload_n 0, 1) := by decide +kernel
theorem dX6_readAct_163 : decode cX6_readAct 163 = .ok (.getfield 184, 3) := by decide +kernel
theorem dX6_readAct_166 : decode cX6_readAct 166 = .ok (.iaload, 1) := by decide +kernel
theorem dX6_readAct_167 : decode cX6_readAct 167 = .ok (.ifCond .ge 7, 3) := by decide +kernel
theorem dX6_readAct_170 : decode cX6_readAct 170 = .ok (.iconst 0, 1) := by decide +kernel
theorem dX6_readAct_171 : decode cX6_readAct 171 = .ok (.ireturn, 1) := by decide +kernel
theorem dX6_readAct_172 : decode cX6_readAct 172 = .ok (.iconst 0, 1) := by decide +kernel
theorem dX6_readAct_173 : decode cX6_readAct 173 = .ok (.ireturn, 1) := by decide +kernel
theorem dX6_readAct_174 : decode cX6_readAct 174 = .ok (.aload_n 0, 1) := by decide +kernel
theorem dX6_readAct_175 : decode cX6_readAct 175 = .ok (.dup, 1) := by decide +kernel
theorem dX6_readAct_176 : decode cX6_readAct 176 = .ok (.getfield 184, 3) := by decide +kernel
theorem dX6_readAct_179 : decode cX6_readAct 179 = .ok (.iconst 1, 1) := by decide +kernel
theorem dX6_readAct_180 : decode cX6_readAct 180 = .ok (.iadd, 1) := by decide +kernel
theorem dX6_readAct_181 : decode cX6_readAct 181 = .ok (.putfield 184, 3) := by decide +kernel
theorem dX6_readAct_184 : decode cX6_readAct 184 = .ok (.iconst 1, 1) := by decide +kernel
theorem dX6_readAct_185 : decode cX6_readAct 185 = .ok (.ireturn, 1) := by decide +kernel
theorem dX6_evening_0 : decode cX6_evening 0 = .ok (.aload_n 0, 1) := by decide +kernel
theorem dX6_evening_1 : decode cX6_evening 1 = .ok (.iconst 0, 1) := by decide +kernel
theorem dX6_evening_2 : decode cX6_evening 2 = .ok (.putfield 170, 3) := by decide +kernel
theorem dX6_evening_5 : decode cX6_evening 5 = .ok (.aload_n 0, 1) := by decide +kernel
theorem dX6_evening_6 : decode cX6_evening 6 = .ok (.iconst 0, 1) := by decide +kernel
theorem dX6_evening_7 : decode cX6_evening 7 = .ok (.putfield 184, 3) := by decide +kernel
theorem dX6_evening_10 : decode cX6_evening 10 = .ok (.aload_n 0, 1) := by decide +kernel
theorem dX6_evening_11 : decode cX6_evening 11 = .ok (.invokevirtual 190, 3) := by decide +kernel
theorem dX6_evening_14 : decode cX6_evening 14 = .ok (.istore_n 1, 1) := by decide +kernel
theorem dX6_evening_15 : decode cX6_evening 15 = .ok (.iload_n 1, 1) := by decide +kernel
theorem dX6_evening_16 : decode cX6_evening 16 = .ok (.ifCond .eq 18, 3) := by decide +kernel
theorem dX6_evening_19 : decode cX6_evening 19 = .ok (.aload_n 0, 1) := by decide +kernel
theorem dX6_evening_20 : decode cX6_evening 20 = .ok (.invokevirtual 173, 3) := by decide +kernel
theorem dX6_evening_23 : decode cX6_evening 23 = .ok (.ifCond .lt 11, 3) := by decide +kernel
theorem dX6_evening_26 : decode cX6_evening 26 = .ok (.aload_n 0, 1) := by decide +kernel
theorem dX6_evening_27 : decode cX6_evening 27 = .ok (.invokevirtual 190, 3) := by decide +kernel
theorem dX6_evening_30 : decode cX6_evening 30 = .ok (.istore_n 1, 1) := by decide +kernel
theorem dX6_evening_31 : decode cX6_evening 31 = .ok (.goto (-16), 3) := by decide +kernel
theorem dX6_evening_34 : decode cX6_evening 34 = .ok (.aload_n 0, 1) := by decide +kernel
theorem dX6_evening_35 : decode cX6_evening 35 = .ok (.iconst 0, 1) := by decide +kernel
theorem dX6_evening_36 : decode cX6_evening 36 = .ok (.putfield 167, 3) := by decide +kernel
theorem dX6_evening_39 : decode cX6_evening 39 = .ok (.iload_n 1, 1) := by decide +kernel
theorem dX6_evening_40 : decode cX6_evening 40 = .ok (.ifCond .ne 11, 3) := by decide +kernel
theorem dX6_evening_43 : decode cX6_evening 43 = .ok (.bipush (-20), 2) := by decide +kernel
theorem dX6_evening_45 : decode cX6_evening 45 = .ok (.aload_n 0, 1) := by decide +kernel
theorem dX6_evening_46 : decode cX6_evening 46 = .ok (.getfield 170, 3) := by decide +kernel
theorem dX6_evening_49 : decode cX6_evening 49 = .ok (.isub, 1) := by decide +kernel
theorem dX6_evening_50 : decode cX6_evening 50 = .ok (.ireturn, 1) := by decide +kernel
theorem dX6_evening_51 : decode cX6_evening 51 = .ok (.iconst 0, 1) := by decide +kernel
theorem dX6_evening_52 : decode cX6_evening 52 = .ok (.istore_n 2, 1) := by decide +kernel
theorem dX6_evening_53 : decode cX6_evening 53 = .ok (.iload_n 2, 1) := by decide +kernel
theorem dX6_evening_54 : decode cX6_evening 54 = .ok (.aload_n 0, 1) := by decide +kernel
theorem dX6_evening_55 : decode cX6_evening 55 = .ok (.getfield 184, 3) := by decide +kernel
theorem dX6_evening_58 : decode cX6_evening 58 = .ok (.if_icmp .ge 71, 3) := by decide +kernel
theorem dX6_evening_61 : decode cX6_evening 61 = .ok (.aload_n 0, 1) := by decide +kernel
theorem dX6_evening_62 : decode cX6_evening 62 = .ok (.getfield 25, 3) := by decide +kernel
theorem dX6_evening_65 : decode cX6_evening 65 = .ok (.iload_n 2, 1) := by decide +kernel
theorem dX6_evening_66 : decode cX6_evening 66 = .ok (.iaload, 1) := by decide +kernel
theorem dX6_evening_67 : decode cX6_evening 67 = .ok (.ifCond .ne 16, 3) := by decide +kernel
theorem dX6_evening_70 : decode cX6_evening 70 = .ok (.aload_n 0, 1) := by decide +kernel
theorem dX6_evening_71 : decode cX6_evening 71 = .ok (.aload_n 0, 1) := by decide +kernel
theorem dX6_evening_72 : decode cX6_evening 72 = .ok (.getfield 28, 3) := by decide +kernel
theorem dX6_evening_75 : decode cX6_evening 75 = .ok (.iload_n 2, 1) := by decide +kernel
theorem dX6_evening_76 : decode cX6_evening 76 = .ok (.iaload, 1) := by decide +kernel
theorem dX6_evening_77 : decode cX6_evening 77 = .ok (.invokevirtual 193, 3) := by decide +kernel
theorem dX6_evening_80 : decode cX6_evening 80 = .ok (.goto 36, 3) := by decide +kernel
theorem dX6_evening_83 : decode cX6_evening 83 = .ok (.aload_n 0, 1) := by decide +kernel
theorem dX6_evening_84 : decode cX6_evening 84 = .ok (.getfield 25, 3) := by decide +kernel
theorem dX6_evening_87 : decode cX6_evening 87 = .ok (.iload_n 2, 1) := by decide +kernel
theorem dX6_evening_88 : decode cX6_evening 88 = .ok (.iaload, 1) := by decide +kernel
theorem dX6_evening_89 : decode cX6_evening 89 = .ok (.iconst 1, 1) := by decide +kernel
theorem dX6_evening_90 : decode cX6_evening 90 = .ok (.if_icmp .ne 16, 3) := by decide +kernel
theorem dX6_evening_93 : decode cX6_evening 93 = .ok (.aload_n 0, 1) := by decide +kernel
theorem dX6_evening_94 : decode cX6_evening 94 = .ok (.aload_n 0, 1) := by decide +kernel
theorem dX6_evening_95 : decode cX6_evening 95 = .ok (.getfield 28, 3) := by decide +kernel
theorem dX6_evening_98 : decode cX6_evening 98 = .ok (.iload_n 2, 1) := by decide +kernel
theorem dX6_evening_99 : decode cX6_evening 99 = .ok (.iaload, 1) := by decide +kernel
theorem dX6_evening_100 : decode cX6_evening 100 = .ok (.invokevirtual 196, 3) := by decide +kernel
theorem dX6_evening_103 : decode cX6_evening 103 = .ok (.goto 13, 3) := by decide +kernel
theorem dX6_evening_106 : decode cX6_evening 106 = .ok (.aload_n 0, 1) := by decide +kernel
theorem dX6_evening_107 : decode cX6_evening 107 = .ok (.aload_n 0, 1) := by decide +kernel
theorem dX6_evening_108 : decode cX6_evening 108 = .ok (.getfield 28, 3) := by decide +kernel
theorem dX6_evening_111 : decode cX6_evening 111 = .ok (.iload_n 2, 1) := by decide +kernel
theorem dX6_evening_112 : decode cX6_evening 112 = .ok (.iaload, 1) := by decide +kernel
theorem dX6_evening_113 : decode cX6_evening 113 = .ok (.invokevirtual 199, 3) := by decide +kernel
theorem dX6_evening_116 : decode cX6_evening 116 = .ok (.istore_n 3, 1) := by decide +kernel
theorem dX6_evening_117 : decode cX6_evening 117 = .ok (.iload_n 3, 1) := by decide +kernel
theorem dX6_evening_118 : decode cX6_evening 118 = .ok (.ifCond .ge 5, 3) := by decide +kernel
theorem dX6_evening_121 : decode cX6_evening 121 = .ok (.iload_n 2, 1) := by decide +kernel
theorem dX6_evening_122 : decode cX6_evening 122 = .ok (.ireturn, 1) := by decide +kernel
theorem dX6_evening_123 : decode cX6_evening 123 = .ok (.iinc 2 1, 3) := by decide +kernel
theorem dX6_evening_126 : decode cX6_evening 126 = .ok (.goto (-73), 3) := by decide +kernel
theorem dX6_evening_129 : decode cX6_evening 129 = .ok (.aload_n 0, 1) := by decide +kernel
theorem dX6_evening_130 : decode cX6_evening 130 = .ok (.getfield 184, 3) := by decide +kernel
theorem dX6_evening_133 : decode cX6_evening 133 = .ok (.ireturn, 1) := by decide +kernel
theorem dX6_image_0 : decode cX6_image 0 = .ok (.aload_n 0, 1) := by decide +kernel
theorem dX6_image_1 : decode cX6_image 1 = .ok (.aload_n 0, 1) := by decide +kernel
theorem dX6_image_2 : decode cX6_image 2 = .ok (.getfield 31, 3) := by decide +kernel
theorem dX6_image_5 : decode cX6_image 5 = .ok (.invokevirtual 109, 3) := by decide +kernel
theorem dX6_image_8 : decode cX6_image 8 = .ok (.aload_n 0, 1) := by decide +kernel
theorem dX6_image_9 : decode cX6_image 9 = .ok (.iconst 1, 1) := by decide +kernel
theorem dX6_image_10 : decode cX6_image 10 = .ok (.putfield 202, 3) := by decide +kernel
theorem dX6_image_13 : decode cX6_image 13 = .ok (.iconst 1, 1) := by decide +kernel
theorem dX6_image_14 : decode cX6_image 14 = .ok (.ireturn, 1) := by decide +kernel
theorem dX6_restore_0 : decode cX6_restore 0 = .ok (.aload_n 0, 1) := by decide +kernel
theorem dX6_restore_1 : decode cX6_restore 1 = .ok (.getfield 202, 3) := by decide +kernel
theorem dX6_restore_4 : decode cX6_restore 4 = .ok (.ifCond .ne 6, 3) := by decide +kernel
theorem dX6_restore_7 : decode cX6_restore 7 = .ok (.bipush (-4), 2) := by decide +kernel
theorem dX6_restore_9 : decode cX6_restore 9 = .ok (.ireturn, 1) := by decide +kernel
theorem dX6_restore_10 : decode cX6_restore 10 = .ok (.aload_n 0, 1) := by decide +kernel
theorem dX6_restore_11 : decode cX6_restore 11 = .ok (.aload_n 0, 1) := by decide +kernel
theorem dX6_restore_12 : decode cX6_restore 12 = .ok (.getfield 31, 3) := by decide +kernel
theorem dX6_restore_15 : decode cX6_restore 15 = .ok (.invokevirtual 120, 3) := by decide +kernel
theorem dX6_restore_18 : decode cX6_restore 18 = .ok (.iconst 1, 1) := by decide +kernel
theorem dX6_restore_19 : decode cX6_restore 19 = .ok (.ireturn, 1) := by decide +kernel
theorem dX6_isSheet_0 : decode cX6_isSheet 0 = .ok (.iload_n 0, 1) := by decide +kernel
theorem dX6_isSheet_1 : decode cX6_isSheet 1 = .ok (.i2l, 1) := by decide +kernel
theorem dX6_isSheet_2 : decode cX6_isSheet 2 = .ok (.lconst 0, 1) := by decide +kernel
theorem dX6_isSheet_3 : decode cX6_isSheet 3 = .ok (.ldc2_w 107, 3) := by decide +kernel
theorem dX6_isSheet_6 : decode cX6_isSheet 6 = .ok (.invokestatic 43, 3) := by decide +kernel
theorem dX6_isSheet_9 : decode cX6_isSheet 9 = .ok (.ifCond .eq 19, 3) := by decide +kernel
theorem dX6_isSheet_12 : decode cX6_isSheet 12 = .ok (.iload_n 1, 1) := by decide +kernel
theorem dX6_isSheet_13 : decode cX6_isSheet 13 = .ok (.i2l, 1) := by decide +kernel
theorem dX6_isSheet_14 : decode cX6_isSheet 14 = .ok (.lconst 0, 1) := by decide +kernel
theorem dX6_isSheet_15 : decode cX6_isSheet 15 = .ok (.ldc2_w 70, 3) := by decide +kernel
theorem dX6_isSheet_18 : decode cX6_isSheet 18 = .ok (.invokestatic 43, 3) := by decide +kernel
theorem dX6_isSheet_21 : decode cX6_isSheet 21 = .ok (.ifCond .eq 7, 3) := by decide +kernel
theorem dX6_isSheet_24 : decode cX6_isSheet 24 = .ok (.iconst 1, 1) := by decide +kernel
theorem dX6_isSheet_25 : decode cX6_isSheet 25 = .ok (.goto 4, 3) := by decide +kernel
theorem dX6_isSheet_28 : decode cX6_isSheet 28 = .ok (.iconst 0, 1) := by decide +kernel
theorem dX6_isSheet_29 : decode cX6_isSheet 29 = .ok (.ireturn, 1) := by decide +kernel
theorem dX6_sheet_0 : decode cX6_sheet 0 = .ok (.iload_n 1, 1) := by decide +kernel
theorem dX6_sheet_1 : decode cX6_sheet 1 = .ok (.iload_n 2, 1) := by decide +kernel
theorem dX6_sheet_2 : decode cX6_sheet 2 = .ok (.invokestatic 132, 3) := by decide +kernel
theorem dX6_sheet_5 : decode cX6_sheet 5 = .ok (.ifCond .eq 9, 3) := by decide +kernel
theorem dX6_sheet_8 : decode cX6_sheet 8 = .ok (.iload_n 3, 1) := by decide +kernel
theorem dX6_sheet_9 : decode cX6_sheet 9 = .ok (.bipush 24, 2) := by decide +kernel
theorem dX6_sheet_11 : decode cX6_sheet 11 = .ok (.if_icmp .le 5, 3) := by decide +kernel
theorem dX6_sheet_14 : decode cX6_sheet 14 = .ok (.iconst (-1), 1) := by decide +kernel
theorem dX6_sheet_15 : decode cX6_sheet 15 = .ok (.ireturn, 1) := by decide +kernel
theorem dX6_sheet_16 : decode cX6_sheet 16 = .ok (.iload_n 3, 1) := by decide +kernel
theorem dX6_sheet_17 : decode cX6_sheet 17 = .ok (.ifCond .ge 6, 3) := by decide +kernel
theorem dX6_sheet_20 : decode cX6_sheet 20 = .ok (.bipush (-14), 2) := by decide +kernel
theorem dX6_sheet_22 : decode cX6_sheet 22 = .ok (.ireturn, 1) := by decide +kernel
theorem dX6_sheet_23 : decode cX6_sheet 23 = .ok (.aload_n 0, 1) := by decide +kernel
theorem dX6_sheet_24 : decode cX6_sheet 24 = .ok (.getfield 34, 3) := by decide +kernel
theorem dX6_sheet_27 : decode cX6_sheet 27 = .ok (.iload_n 1, 1) := by decide +kernel
theorem dX6_sheet_28 : decode cX6_sheet 28 = .ok (.iload_n 2, 1) := by decide +kernel
theorem dX6_sheet_29 : decode cX6_sheet 29 = .ok (.iastore, 1) := by decide +kernel
theorem dX6_sheet_30 : decode cX6_sheet 30 = .ok (.aload_n 0, 1) := by decide +kernel
theorem dX6_sheet_31 : decode cX6_sheet 31 = .ok (.getfield 37, 3) := by decide +kernel
theorem dX6_sheet_34 : decode cX6_sheet 34 = .ok (.iload_n 1, 1) := by decide +kernel
theorem dX6_sheet_35 : decode cX6_sheet 35 = .ok (.iload_n 3, 1) := by decide +kernel
theorem dX6_sheet_36 : decode cX6_sheet 36 = .ok (.iastore, 1) := by decide +kernel
theorem dX6_sheet_37 : decode cX6_sheet 37 = .ok (.iconst 0, 1) := by decide +kernel
theorem dX6_sheet_38 : decode cX6_sheet 38 = .ok (.istore 4, 2) := by decide +kernel
theorem dX6_sheet_40 : decode cX6_sheet 40 = .ok (.iload 4, 2) := by decide +kernel
theorem dX6_sheet_42 : decode cX6_sheet 42 = .ok (.bipush 24, 2) := by decide +kernel
theorem dX6_sheet_44 : decode cX6_sheet 44 = .ok (.if_icmp .ge 22, 3) := by decide +kernel
theorem dX6_sheet_47 : decode cX6_sheet 47 = .ok (.aload_n 0, 1) := by decide +kernel
theorem dX6_sheet_48 : decode cX6_sheet 48 = .ok (.getfield 40, 3) := by decide +kernel
theorem dX6_sheet_51 : decode cX6_sheet 51 = .ok (.bipush 24, 2) := by decide +kernel
theorem dX6_sheet_53 : decode cX6_sheet 53 = .ok (.iload_n 1, 1) := by decide +kernel
theorem dX6_sheet_54 : decode cX6_sheet 54 = .ok (.imul, 1) := by decide +kernel
theorem dX6_sheet_55 : decode cX6_sheet 55 = .ok (.iload 4, 2) := by decide +kernel
theorem dX6_sheet_57 : decode cX6_sheet 57 = .ok (.iadd, 1) := by decide +kernel
theorem dX6_sheet_58 : decode cX6_sheet 58 = .ok (.iconst 0, 1) := by decide +kernel
theorem dX6_sheet_59 : decode cX6_sheet 59 = .ok (.iastore, 1) := by decide +kernel
theorem dX6_sheet_60 : decode cX6_sheet 60 = .ok (.iinc 4 1, 3) := by decide +kernel
theorem dX6_sheet_63 : decode cX6_sheet 63 = .ok (.goto (-23), 3) := by decide +kernel
theorem dX6_sheet_66 : decode cX6_sheet 66 = .ok (.iload_n 3, 1) := by decide +kernel
theorem dX6_sheet_67 : decode cX6_sheet 67 = .ok (.ireturn, 1) := by decide +kernel
theorem dX6_drop_0 : decode cX6_drop 0 = .ok (.iload_n 1, 1) := by decide +kernel
theorem dX6_drop_1 : decode cX6_drop 1 = .ok (.i2l, 1) := by decide +kernel
theorem dX6_drop_2 : decode cX6_drop 2 = .ok (.lconst 0, 1) := by decide +kernel
theorem dX6_drop_3 : decode cX6_drop 3 = .ok (.ldc2_w 107, 3) := by decide +kernel
theorem dX6_drop_6 : decode cX6_drop 6 = .ok (.invokestatic 43, 3) := by decide +kernel
theorem dX6_drop_9 : decode cX6_drop 9 = .ok (.ifCond .ne 5, 3) := by decide +kernel
theorem dX6_drop_12 : decode cX6_drop 12 = .ok (.iconst (-1), 1) := by decide +kernel
theorem dX6_drop_13 : decode cX6_drop 13 = .ok (.ireturn, 1) := by decide +kernel
theorem dX6_drop_14 : decode cX6_drop 14 = .ok (.aload_n 0, 1) := by decide +kernel
theorem dX6_drop_15 : decode cX6_drop 15 = .ok (.getfield 34, 3) := by decide +kernel
theorem dX6_drop_18 : decode cX6_drop 18 = .ok (.iload_n 1, 1) := by decide +kernel
theorem dX6_drop_19 : decode cX6_drop 19 = .ok (.iaload, 1) := by decide +kernel
theorem dX6_drop_20 : decode cX6_drop 20 = .ok (.ifCond .ge 6, 3) := by decide +kernel
theorem dX6_drop_23 : decode cX6_drop 23 = .ok (.bipush (-11), 2) := by decide +kernel
theorem dX6_drop_25 : decode cX6_drop 25 = .ok (.ireturn, 1) := by decide +kernel
theorem dX6_drop_26 : decode cX6_drop 26 = .ok (.aload_n 0, 1) := by decide +kernel
theorem dX6_drop_27 : decode cX6_drop 27 = .ok (.getfield 34, 3) := by decide +kernel
theorem dX6_drop_30 : decode cX6_drop 30 = .ok (.iload_n 1, 1) := by decide +kernel
theorem dX6_drop_31 : decode cX6_drop 31 = .ok (.iconst (-1), 1) := by decide +kernel
theorem dX6_drop_32 : decode cX6_drop 32 = .ok (.iastore, 1) := by decide +kernel
theorem dX6_drop_33 : decode cX6_drop 33 = .ok (.aload_n 0, 1) := by decide +kernel
theorem dX6_drop_34 : decode cX6_drop 34 = .ok (.getfield 37, 3) := by decide +kernel
theorem dX6_drop_37 : decode cX6_drop 37 = .ok (.iload_n 1, 1) := by decide +kernel
theorem dX6_drop_38 : decode cX6_drop 38 = .ok (.iaload, 1) := by decide +kernel
theorem dX6_drop_39 : decode cX6_drop 39 = .ok (.ireturn, 1) := by decide +kernel
theorem dX6_lacksRow_0 : decode cX6_lacksRow 0 = .ok (.aload_n 0, 1) := by decide +kernel
theorem dX6_lacksRow_1 : decode cX6_lacksRow 1 = .ok (.getfield 34, 3) := by decide +kernel
theorem dX6_lacksRow_4 : decode cX6_lacksRow 4 = .ok (.iload_n 1, 1) := by decide +kernel
theorem dX6_lacksRow_5 : decode cX6_lacksRow 5 = .ok (.iaload, 1) := by decide +kernel
theorem dX6_lacksRow_6 : decode cX6_lacksRow 6 = .ok (.iload_n 2, 1) := by decide +kernel
theorem dX6_lacksRow_7 : decode cX6_lacksRow 7 = .ok (.if_icmp .eq 20, 3) := by decide +kernel
theorem dX6_lacksRow_10 : decode cX6_lacksRow 10 = .ok (.aload_n 0, 1) := by decide +kernel
theorem dX6_lacksRow_11 : decode cX6_lacksRow 11 = .ok (.getfield 34, 3) := by decide +kernel
theorem dX6_lacksRow_14 : decode cX6_lacksRow 14 = .ok (.iload_n 1, 1) := by decide +kernel
theorem dX6_lacksRow_15 : decode cX6_lacksRow 15 = .ok (.iaload, 1) := by decide +kernel
theorem dX6_lacksRow_16 : decode cX6_lacksRow 16 = .ok (.ifCond .ge 8, 3) := by decide +kernel
theorem dX6_lacksRow_19 : decode cX6_lacksRow 19 = .ok (.bipush (-11), 2) := by decide +kernel
theorem dX6_lacksRow_21 : decode cX6_lacksRow 21 = .ok (.goto 5, 3) := by decide +kernel
theorem dX6_lacksRow_24 : decode cX6_lacksRow 24 = .ok (.bipush (-12), 2) := by decide +kernel
theorem dX6_lacksRow_26 : decode cX6_lacksRow 26 = .ok (.ireturn, 1) := by decide +kernel
theorem dX6_lacksRow_27 : decode cX6_lacksRow 27 = .ok (.iload_n 3, 1) := by decide +kernel
theorem dX6_lacksRow_28 : decode cX6_lacksRow 28 = .ok (.i2l, 1) := by decide +kernel
theorem dX6_lacksRow_29 : decode cX6_lacksRow 29 = .ok (.lconst 0, 1) := by decide +kernel
theorem dX6_lacksRow_30 : decode cX6_lacksRow 30 = .ok (.aload_n 0, 1) := by decide +kernel
theorem dX6_lacksRow_31 : decode cX6_lacksRow 31 = .ok (.getfield 37, 3) := by decide +kernel
theorem dX6_lacksRow_34 : decode cX6_lacksRow 34 = .ok (.iload_n 1, 1) := by decide +kernel
theorem dX6_lacksRow_35 : decode cX6_lacksRow 35 = .ok (.iaload, 1) := by decide +kernel
theorem dX6_lacksRow_36 : decode cX6_lacksRow 36 = .ok (.iload 4, 2) := by decide +kernel
theorem dX6_lacksRow_38 : decode cX6_lacksRow 38 = .ok (.isub, 1) := by decide +kernel
theorem dX6_lacksRow_39 : decode cX6_lacksRow 39 = .ok (.i2l, 1) := by decide +kernel
theorem dX6_lacksRow_40 : decode cX6_lacksRow 40 = .ok (.invokestatic 43, 3) := by decide +kernel
theorem dX6_lacksRow_43 : decode cX6_lacksRow 43 = .ok (.ifCond .eq 7, 3) := by decide +kernel
theorem dX6_lacksRow_46 : decode cX6_lacksRow 46 = .ok (.iconst 0, 1) := by decide +kernel
theorem dX6_lacksRow_47 : decode cX6_lacksRow 47 = .ok (.goto 5, 3) := by decide +kernel
theorem dX6_lacksRow_50 : decode cX6_lacksRow 50 = .ok (.bipush (-13), 2) := by decide +kernel
theorem dX6_lacksRow_52 : decode cX6_lacksRow 52 = .ok (.ireturn, 1) := by decide +kernel
theorem dX6_item_0 : decode cX6_item 0 = .ok (.iload_n 1, 1) := by decide +kernel
theorem dX6_item_1 : decode cX6_item 1 = .ok (.iload_n 2, 1) := by decide +kernel
theorem dX6_item_2 : decode cX6_item 2 = .ok (.invokestatic 132, 3) := by decide +kernel
theorem dX6_item_5 : decode cX6_item 5 = .ok (.ifCond .ne 5, 3) := by decide +kernel
theorem dX6_item_8 : decode cX6_item 8 = .ok (.iconst (-1), 1) := by decide +kernel
theorem dX6_item_9 : decode cX6_item 9 = .ok (.ireturn, 1) := by decide +kernel
theorem dX6_item_10 : decode cX6_item 10 = .ok (.aload_n 0, 1) := by decide +kernel
theorem dX6_item_11 : decode cX6_item 11 = .ok (.iload_n 1, 1) := by decide +kernel
theorem dX6_item_12 : decode cX6_item 12 = .ok (.iload_n 2, 1) := by decide +kernel
theorem dX6_item_13 : decode cX6_item 13 = .ok (.iload_n 3, 1) := by decide +kernel
theorem dX6_item_14 : decode cX6_item 14 = .ok (.iconst 1, 1) := by decide +kernel
theorem dX6_item_15 : decode cX6_item 15 = .ok (.invokevirtual 136, 3) := by decide +kernel
theorem dX6_item_18 : decode cX6_item 18 = .ok (.istore 5, 2) := by decide +kernel
theorem dX6_item_20 : decode cX6_item 20 = .ok (.iload 5, 2) := by decide +kernel
theorem dX6_item_22 : decode cX6_item 22 = .ok (.ifCond .ge 6, 3) := by decide +kernel
theorem dX6_item_25 : decode cX6_item 25 = .ok (.iload 5, 2) := by decide +kernel
theorem dX6_item_27 : decode cX6_item 27 = .ok (.ireturn, 1) := by decide +kernel
theorem dX6_item_28 : decode cX6_item 28 = .ok (.aload_n 0, 1) := by decide +kernel
theorem dX6_item_29 : decode cX6_item 29 = .ok (.getfield 40, 3) := by decide +kernel
theorem dX6_item_32 : decode cX6_item 32 = .ok (.bipush 24, 2) := by decide +kernel
theorem dX6_item_34 : decode cX6_item 34 = .ok (.iload_n 1, 1) := by decide +kernel
theorem dX6_item_35 : decode cX6_item 35 = .ok (.imul, 1) := by decide +kernel
theorem dX6_item_36 : decode cX6_item 36 = .ok (.iload_n 3, 1) := by decide +kernel
theorem dX6_item_37 : decode cX6_item 37 = .ok (.iadd, 1) := by decide +kernel
theorem dX6_item_38 : decode cX6_item 38 = .ok (.iload_n 2, 1) := by decide +kernel
theorem dX6_item_39 : decode cX6_item 39 = .ok (.ifCond .ne 14, 3) := by decide +kernel
theorem dX6_item_42 : decode cX6_item 42 = .ok (.iload 4, 2) := by decide +kernel
theorem dX6_item_44 : decode cX6_item 44 = .ok (.bipush 24, 2) := by decide +kernel
theorem dX6_item_46 : decode cX6_item 46 = .ok (.ishl, 1) := by decide +kernel
theorem dX6_item_47 : decode cX6_item 47 = .ok (.bipush 24, 2) := by decide +kernel
theorem dX6_item_49 : decode cX6_item 49 = .ok (.ishr, 1) := by decide +kernel
theorem dX6_item_50 : decode cX6_item 50 = .ok (.goto 21, 3) := by decide +kernel
theorem dX6_item_53 : decode cX6_item 53 = .ok (.iload_n 2, 1) := by decide +kernel
theorem dX6_item_54 : decode cX6_item 54 = .ok (.iconst 1, 1) := by decide +kernel
theorem dX6_item_55 : decode cX6_item 55 = .ok (.if_icmp .ne 14, 3) := by decide +kernel
theorem dX6_item_58 : decode cX6_item 58 = .ok (.iload 4, 2) := by decide +kernel
theorem dX6_item_60 : decode cX6_item 60 = .ok (.bipush 16, 2) := by decide +kernel
theorem dX6_item_62 : decode cX6_item 62 = .ok (.ishl, 1) := by decide +kernel
theorem dX6_item_63 : decode cX6_item 63 = .ok (.bipush 16, 2) := by decide +kernel
theorem dX6_item_65 : decode cX6_item 65 = .ok (.ishr, 1) := by decide +kernel
theorem dX6_item_66 : decode cX6_item 66 = .ok (.goto 5, 3) := by decide +kernel
theorem dX6_item_69 : decode cX6_item 69 = .ok (.iload 4, 2) := by decide +kernel
theorem dX6_item_71 : decode cX6_item 71 = .ok (.iastore, 1) := by decide +kernel
theorem dX6_item_72 : decode cX6_item 72 = .ok (.iconst 1, 1) := by decide +kernel
theorem dX6_item_73 : decode cX6_item 73 = .ok (.ireturn, 1) := by decide +kernel
theorem dJ6_bitCount_0f7a4_0 : decode cJ6_bitCount_0f7a4 0 = .ok (.iload_n 0, 1) := by decide +kernel
theorem dJ6_bitCount_0f7a4_1 : decode cJ6_bitCount_0f7a4 1 = .ok (.iload_n 0, 1) := by decide +kernel
theorem dJ6_bitCount_0f7a4_2 : decode cJ6_bitCount_0f7a4 2 = .ok (.iconst 1, 1) := by decide +kernel
theorem dJ6_bitCount_0f7a4_3 : decode cJ6_bitCount_0f7a4 3 = .ok (.iushr, 1) := by decide +kernel
theorem dJ6_bitCount_0f7a4_4 : decode cJ6_bitCount_0f7a4 4 = .ok (.ldc_w 265, 3) := by decide +kernel
theorem dJ6_bitCount_0f7a4_7 : decode cJ6_bitCount_0f7a4 7 = .ok (.iand, 1) := by decide +kernel
theorem dJ6_bitCount_0f7a4_8 : decode cJ6_bitCount_0f7a4 8 = .ok (.isub, 1) := by decide +kernel
theorem dJ6_bitCount_0f7a4_9 : decode cJ6_bitCount_0f7a4 9 = .ok (.istore_n 0, 1) := by decide +kernel
theorem dJ6_bitCount_0f7a4_10 : decode cJ6_bitCount_0f7a4 10 = .ok (.iload_n 0, 1) := by decide +kernel
theorem dJ6_bitCount_0f7a4_11 : decode cJ6_bitCount_0f7a4 11 = .ok (.ldc_w 266, 3) := by decide +kernel
theorem dJ6_bitCount_0f7a4_14 : decode cJ6_bitCount_0f7a4 14 = .ok (.iand, 1) := by decide +kernel
theorem dJ6_bitCount_0f7a4_15 : decode cJ6_bitCount_0f7a4 15 = .ok (.iload_n 0, 1) := by decide +kernel
theorem dJ6_bitCount_0f7a4_16 : decode cJ6_bitCount_0f7a4 16 = .ok (.iconst 2, 1) := by decide +kernel
theorem dJ6_bitCount_0f7a4_17 : decode cJ6_bitCount_0f7a4 17 = .ok (.iushr, 1) := by decide +kernel
theorem dJ6_bitCount_0f7a4_18 : decode cJ6_bitCount_0f7a4 18 = .ok (.ldc_w 266, 3) := by decide +kernel
theorem dJ6_bitCount_0f7a4_21 : decode cJ6_bitCount_0f7a4 21 = .ok (.iand, 1) := by decide +kernel
theorem dJ6_bitCount_0f7a4_22 : decode cJ6_bitCount_0f7a4 22 = .ok (.iadd, 1) := by decide +kernel
theorem dJ6_bitCount_0f7a4_23 : decode cJ6_bitCount_0f7a4 23 = .ok (.istore_n 0, 1) := by decide +kernel
theorem dJ6_bitCount_0f7a4_24 : decode cJ6_bitCount_0f7a4 24 = .ok (.iload_n 0, 1) := by decide +kernel
theorem dJ6_bitCount_0f7a4_25 : decode cJ6_bitCount_0f7a4 25 = .ok (.iload_n 0, 1) := by decide +kernel
theorem dJ6_bitCount_0f7a4_26 : decode cJ6_bitCount_0f7a4 26 = .ok (.iconst 4, 1) := by decide +kernel
theorem dJ6_bitCount_0f7a4_27 : decode cJ6_bitCount_0f7a4 27 = .ok (.iushr, 1) := by decide +kernel
theorem dJ6_bitCount_0f7a4_28 : decode cJ6_bitCount_0f7a4 28 = .ok (.iadd, 1) := by decide +kernel
theorem dJ6_bitCount_0f7a4_29 : decode cJ6_bitCount_0f7a4 29 = .ok (.ldc_w 267, 3) := by decide +kernel
theorem dJ6_bitCount_0f7a4_32 : decode cJ6_bitCount_0f7a4 32 = .ok (.iand, 1) := by decide +kernel
theorem dJ6_bitCount_0f7a4_33 : decode cJ6_bitCount_0f7a4 33 = .ok (.istore_n 0, 1) := by decide +kernel
theorem dJ6_bitCount_0f7a4_34 : decode cJ6_bitCount_0f7a4 34 = .ok (.iload_n 0, 1) := by decide +kernel
theorem dJ6_bitCount_0f7a4_35 : decode cJ6_bitCount_0f7a4 35 = .ok (.iload_n 0, 1) := by decide +kernel
theorem dJ6_bitCount_0f7a4_36 : decode cJ6_bitCount_0f7a4 36 = .ok (.bipush 8, 2) := by decide +kernel
theorem dJ6_bitCount_0f7a4_38 : decode cJ6_bitCount_0f7a4 38 = .ok (.iushr, 1) := by decide +kernel
theorem dJ6_bitCount_0f7a4_39 : decode cJ6_bitCount_0f7a4 39 = .ok (.iadd, 1) := by decide +kernel
theorem dJ6_bitCount_0f7a4_40 : decode cJ6_bitCount_0f7a4 40 = .ok (.istore_n 0, 1) := by decide +kernel
theorem dJ6_bitCount_0f7a4_41 : decode cJ6_bitCount_0f7a4 41 = .ok (.iload_n 0, 1) := by decide +kernel
theorem dJ6_bitCount_0f7a4_42 : decode cJ6_bitCount_0f7a4 42 = .ok (.iload_n 0, 1) := by decide +kernel
theorem dJ6_bitCount_0f7a4_43 : decode cJ6_bitCount_0f7a4 43 = .ok (.bipush 16, 2) := by decide +kernel
theorem dJ6_bitCount_0f7a4_45 : decode cJ6_bitCount_0f7a4 45 = .ok (.iushr, 1) := by decide +kernel
theorem dJ6_bitCount_0f7a4_46 : decode cJ6_bitCount_0f7a4 46 = .ok (.iadd, 1) := by decide +kernel
theorem dJ6_bitCount_0f7a4_47 : decode cJ6_bitCount_0f7a4 47 = .ok (.istore_n 0, 1) := by decide +kernel
theorem dJ6_bitCount_0f7a4_48 : decode cJ6_bitCount_0f7a4 48 = .ok (.iload_n 0, 1) := by decide +kernel
theorem dJ6_bitCount_0f7a4_49 : decode cJ6_bitCount_0f7a4 49 = .ok (.bipush 63, 2) := by decide +kernel
theorem dJ6_bitCount_0f7a4_51 : decode cJ6_bitCount_0f7a4 51 = .ok (.iand, 1) := by decide +kernel
theorem dJ6_bitCount_0f7a4_52 : decode cJ6_bitCount_0f7a4 52 = .ok (.ireturn, 1) := by decide +kernel
theorem dJ9_max_7cf53_0 : decode cJ9_max_7cf53 0 = .ok (.iload_n 0, 1) := by decide +kernel
theorem dJ9_max_7cf53_1 : decode cJ9_max_7cf53 1 = .ok (.iload_n 1, 1) := by decide +kernel
theorem dJ9_max_7cf53_2 : decode cJ9_max_7cf53 2 = .ok (.if_icmp .lt 7, 3) := by decide +kernel
theorem dJ9_max_7cf53_5 : decode cJ9_max_7cf53 5 = .ok (.iload_n 0, 1) := by decide +kernel
theorem dJ9_max_7cf53_6 : decode cJ9_max_7cf53 6 = .ok (.goto 4, 3) := by decide +kernel
theorem dJ9_max_7cf53_9 : decode cJ9_max_7cf53 9 = .ok (.iload_n 1, 1) := by decide +kernel
theorem dJ9_max_7cf53_10 : decode cJ9_max_7cf53 10 = .ok (.ireturn, 1) := by decide +kernel
theorem dJ9_min_7cf53_0 : decode cJ9_min_7cf53 0 = .ok (.iload_n 0, 1) := by decide +kernel
theorem dJ9_min_7cf53_1 : decode cJ9_min_7cf53 1 = .ok (.iload_n 1, 1) := by decide +kernel
theorem dJ9_min_7cf53_2 : decode cJ9_min_7cf53 2 = .ok (.if_icmp .gt 7, 3) := by decide +kernel
theorem dJ9_min_7cf53_5 : decode cJ9_min_7cf53 5 = .ok (.iload_n 0, 1) := by decide +kernel
theorem dJ9_min_7cf53_6 : decode cJ9_min_7cf53 6 = .ok (.goto 4, 3) := by decide +kernel
theorem dJ9_min_7cf53_9 : decode cJ9_min_7cf53 9 = .ok (.iload_n 1, 1) := by decide +kernel
theorem dJ9_min_7cf53_10 : decode cJ9_min_7cf53 10 = .ok (.ireturn, 1) := by decide +kernel
theorem dL_law_0 : decode cL_law 0 = .ok (.new 7, 3) := by decide +kernel
theorem dL_law_3 : decode cL_law 3 = .ok (.dup, 1) := by decide +kernel
theorem dL_law_4 : decode cL_law 4 = .ok (.invokespecial 9, 3) := by decide +kernel
theorem dL_law_7 : decode cL_law 7 = .ok (.astore_n 1, 1) := by decide +kernel
theorem dL_law_8 : decode cL_law 8 = .ok (.new 10, 3) := by decide +kernel
theorem dL_law_11 : decode cL_law 11 = .ok (.dup, 1) := by decide +kernel
theorem dL_law_12 : decode cL_law 12 = .ok (.invokespecial 12, 3) := by decide +kernel
theorem dL_law_15 : decode cL_law 15 = .ok (.astore_n 2, 1) := by decide +kernel
theorem dL_law_16 : decode cL_law 16 = .ok (.iconst 0, 1) := by decide +kernel
theorem dL_law_17 : decode cL_law 17 = .ok (.istore_n 3, 1) := by decide +kernel
theorem dL_law_18 : decode cL_law 18 = .ok (.iload_n 3, 1) := by decide +kernel
theorem dL_law_19 : decode cL_law 19 = .ok (.aload_n 0, 1) := by decide +kernel
theorem dL_law_20 : decode cL_law 20 = .ok (.arraylength, 1) := by decide +kernel
theorem dL_law_21 : decode cL_law 21 = .ok (.bipush 6, 2) := by decide +kernel
theorem dL_law_23 : decode cL_law 23 = .ok (.isub, 1) := by decide +kernel
theorem dL_law_24 : decode cL_law 24 = .ok (.if_icmp .gt 915, 3) := by decide +kernel
theorem dL_law_27 : decode cL_law 27 = .ok (.aload_n 0, 1) := by decide +kernel
theorem dL_law_28 : decode cL_law 28 = .ok (.iload_n 3, 1) := by decide +kernel
theorem dL_law_29 : decode cL_law 29 = .ok (.iaload, 1) := by decide +kernel
theorem dL_law_30 : decode cL_law 30 = .ok (.bipush 31, 2) := by decide +kernel
theorem dL_law_32 : decode cL_law 32 = .ok (.iand, 1) := by decide +kernel
theorem dL_law_33 : decode cL_law 33 = .ok (.tableswitch 900 0 24 #[115, 148, 181, 214, 247, 280, 323, 346, 379, 402, 425, 448, 471, 494, 517, 530, 553, 616, 679, 742, 755, 768, 781, 824, 847], 115) := by decide +kernel
theorem dL_law_148 : decode cL_law 148 = .ok (.aload_n 1, 1) := by decide +kernel
theorem dL_law_149 : decode cL_law 149 = .ok (.aload_n 0, 1) := by decide +kernel
theorem dL_law_150 : decode cL_law 150 = .ok (.iload_n 3, 1) := by decide +kernel
theorem dL_law_151 : decode cL_law 151 = .ok (.iconst 1, 1) := by decide +kernel
theorem dL_law_152 : decode cL_law 152 = .ok (.iadd, 1) := by decide +kernel
theorem dL_law_153 : decode cL_law 153 = .ok (.iaload, 1) := by decide +kernel
theorem dL_law_154 : decode cL_law 154 = .ok (.aload_n 0, 1) := by decide +kernel
theorem dL_law_155 : decode cL_law 155 = .ok (.iload_n 3, 1) := by decide +kernel
theorem dL_law_156 : decode cL_law 156 = .ok (.iconst 2, 1) := by decide +kernel
theorem dL_law_157 : decode cL_law 157 = .ok (.iadd, 1) := by decide +kernel
theorem dL_law_158 : decode cL_law 158 = .ok (.iaload, 1) := by decide +kernel
theorem dL_law_159 : decode cL_law 159 = .ok (.invokevirtual 13, 3) := by decide +kernel
theorem dL_law_162 : decode cL_law 162 = .ok (.aload_n 2, 1) := by decide +kernel
theorem dL_law_163 : decode cL_law 163 = .ok (.aload_n 0, 1) := by decide +kernel
theorem dL_law_164 : decode cL_law 164 = .ok (.iload_n 3, 1) := by decide +kernel
theorem dL_law_165 : decode cL_law 165 = .ok (.iconst 1, 1) := by decide +kernel
theorem dL_law_166 : decode cL_law 166 = .ok (.iadd, 1) := by decide +kernel
theorem dL_law_167 : decode cL_law 167 = .ok (.iaload, 1) := by decide +kernel
theorem dL_law_168 : decode cL_law 168 = .ok (.aload_n 0, 1) := by decide +kernel
theorem dL_law_169 : decode cL_law 169 = .ok (.iload_n 3, 1) := by decide +kernel
theorem dL_law_170 : decode cL_law 170 = .ok (.iconst 2, 1) := by decide +kernel
theorem dL_law_171 : decode cL_law 171 = .ok (.iadd, 1) := by decide +kernel
theorem dL_law_172 : decode cL_law 172 = .ok (.iaload, 1) := by decide +kernel
theorem dL_law_173 : decode cL_law 173 = .ok (.invokevirtual 17, 3) := by decide +kernel
theorem dL_law_176 : decode cL_law 176 = .ok (.if_icmp .eq 757, 3) := by decide +kernel
theorem dL_law_179 : decode cL_law 179 = .ok (.iconst 0, 1) := by decide +kernel
theorem dL_law_180 : decode cL_law 180 = .ok (.ireturn, 1) := by decide +kernel
theorem dL_law_181 : decode cL_law 181 = .ok (.aload_n 1, 1) := by decide +kernel
theorem dL_law_182 : decode cL_law 182 = .ok (.aload_n 0, 1) := by decide +kernel
theorem dL_law_183 : decode cL_law 183 = .ok (.iload_n 3, 1) := by decide +kernel
theorem dL_law_184 : decode cL_law 184 = .ok (.iconst 1, 1) := by decide +kernel
theorem dL_law_185 : decode cL_law 185 = .ok (.iadd, 1) := by decide +kernel
theorem dL_law_186 : decode cL_law 186 = .ok (.iaload, 1) := by decide +kernel
theorem dL_law_187 : decode cL_law 187 = .ok (.aload_n 0, 1) := by decide +kernel
theorem dL_law_188 : decode cL_law 188 = .ok (.iload_n 3, 1) := by decide +kernel
theorem dL_law_189 : decode cL_law 189 = .ok (.iconst 2, 1) := by decide +kernel
theorem dL_law_190 : decode cL_law 190 = .ok (.iadd, 1) := by decide +kernel
theorem dL_law_191 : decode cL_law 191 = .ok (.iaload, 1) := by decide +kernel
theorem dL_law_192 : decode cL_law 192 = .ok (.invokevirtual 18, 3) := by decide +kernel
theorem dL_law_195 : decode cL_law 195 = .ok (.aload_n 2, 1) := by decide +kernel
theorem dL_law_196 : decode cL_law 196 = .ok (.aload_n 0, 1) := by decide +kernel
theorem dL_law_197 : decode cL_law 197 = .ok (.iload_n 3, 1) := by decide +kernel
theorem dL_law_198 : decode cL_law 198 = .ok (.iconst 1, 1) := by decide +kernel
theorem dL_law_199 : decode cL_law 199 = .ok (.iadd, 1) := by decide +kernel
theorem dL_law_200 : decode cL_law 200 = .ok (.iaload, 1) := by decide +kernel
theorem dL_law_201 : decode cL_law 201 = .ok (.aload_n 0, 1) := by decide +kernel
theorem dL_law_202 : decode cL_law 202 = .ok (.iload_n 3, 1) := by decide +kernel
theorem dL_law_203 : decode cL_law 203 = .ok (.iconst 2, 1) := by decide +kernel
theorem dL_law_204 : decode cL_law 204 = .ok (.iadd, 1) := by decide +kernel
theorem dL_law_205 : decode cL_law 205 = .ok (.iaload, 1) := by decide +kernel
theorem dL_law_206 : decode cL_law 206 = .ok (.invokevirtual 21, 3) := by decide +kernel
theorem dL_law_209 : decode cL_law 209 = .ok (.if_icmp .eq 724, 3) := by decide +kernel
theorem dL_law_212 : decode cL_law 212 = .ok (.iconst 0, 1) := by decide +kernel
theorem dL_law_213 : decode cL_law 213 = .ok (.ireturn, 1) := by decide +kernel
theorem dL_law_214 : decode cL_law 214 = .ok (.aload_n 1, 1) := by decide +kernel
theorem dL_law_215 : decode cL_law 215 = .ok (.aload_n 0, 1) := by decide +kernel
theorem dL_law_216 : decode cL_law 216 = .ok (.iload_n 3, 1) := by decide +kernel
theorem dL_law_217 : decode cL_law 217 = .ok (.iconst 1, 1) := by decide +kernel
theorem dL_law_218 : decode cL_law 218 = .ok (.iadd, 1) := by decide +kernel
theorem dL_law_219 : decode cL_law 219 = .ok (.iaload, 1) := by decide +kernel
theorem dL_law_220 : decode cL_law 220 = .ok (.aload_n 0, 1) := by decide +kernel
theorem dL_law_221 : decode cL_law 221 = .ok (.iload_n 3, 1) := by decide +kernel
theorem dL_law_222 : decode cL_law 222 = .ok (.iconst 2, 1) := by decide +kernel
theorem dL_law_223 : decode cL_law 223 = .ok (.iadd, 1) := by decide +kernel
theorem dL_law_224 : decode cL_law 224 = .ok (.iaload, 1) := by decide +kernel
theorem dL_law_225 : decode cL_law 225 = .ok (.invokevirtual 22, 3) := by decide +kernel
theorem dL_law_228 : decode cL_law 228 = .ok (.aload_n 2, 1) := by decide +kernel
theorem dL_law_229 : decode cL_law 229 = .ok (.aload_n 0, 1) := by decide +kernel
theorem dL_law_230 : decode cL_law 230 = .ok (.iload_n 3, 1) := by decide +kernel
theorem dL_law_231 : decode cL_law 231 = .ok (.iconst 1, 1) := by decide +kernel
theorem dL_law_232 : decode cL_law 232 = .ok (.iadd, 1) := by decide +kernel
theorem dL_law_233 : decode cL_law 233 = .ok (.iaload, 1) := by decide +kernel
theorem dL_law_234 : decode cL_law 234 = .ok (.aload_n 0, 1) := by decide +kernel
theorem dL_law_235 : decode cL_law 235 = .ok (.iload_n 3, 1) := by decide +kernel
theorem dL_law_236 : decode cL_law 236 = .ok (.iconst 2, 1) := by decide +kernel
theorem dL_law_237 : decode cL_law 237 = .ok (.iadd, 1) := by decide +kernel
theorem dL_law_238 : decode cL_law 238 = .ok (.iaload, 1) := by decide +kernel
theorem dL_law_239 : decode cL_law 239 = .ok (.invokevirtual 25, 3) := by decide +kernel
theorem dL_law_242 : decode cL_law 242 = .ok (.if_icmp .eq 691, 3) := by decide +kernel
theorem dL_law_245 : decode cL_law 245 = .ok (.iconst 0, 1) := by decide +kernel
theorem dL_law_246 : decode cL_law 246 = .ok (.ireturn, 1) := by decide +kernel
theorem dL_law_247 : decode cL_law 247 = .ok (.aload_n 1, 1) := by decide +kernel
theorem dL_law_248 : decode cL_law 248 = .ok (.aload_n 0, 1) := by decide +kernel
theorem dL_law_249 : decode cL_law 249 = .ok (.iload_n 3, 1) := by decide +kernel
theorem dL_law_250 : decode cL_law 250 = .ok (.iconst 1, 1) := by decide +kernel
theorem dL_law_251 : decode cL_law 251 = .ok (.iadd, 1) := by decide +kernel
theorem dL_law_252 : decode cL_law 252 = .ok (.iaload, 1) := by decide +kernel
theorem dL_law_253 : decode cL_law 253 = .ok (.aload_n 0, 1) := by decide +kernel
theorem dL_law_254 : decode cL_law 254 = .ok (.iload_n 3, 1) := by decide +kernel
theorem dL_law_255 : decode cL_law 255 = .ok (.iconst 2, 1) := by decide +kernel
theorem dL_law_256 : decode cL_law 256 = .ok (.iadd, 1) := by decide +kernel
theorem dL_law_257 : decode cL_law 257 = .ok (.iaload, 1) := by decide +kernel
theorem dL_law_258 : decode cL_law 258 = .ok (.invokevirtual 26, 3) := by decide +kernel
theorem dL_law_261 : decode cL_law 261 = .ok (.aload_n 2, 1) := by decide +kernel
theorem dL_law_262 : decode cL_law 262 = .ok (.aload_n 0, 1) := by decide +kernel
theorem dL_law_263 : decode cL_law 263 = .ok (.iload_n 3, 1) := by decide +kernel
theorem dL_law_264 : decode cL_law 264 = .ok (.iconst 1, 1) := by decide +kernel
theorem dL_law_265 : decode cL_law 265 = .ok (.iadd, 1) := by decide +kernel
theorem dL_law_266 : decode cL_law 266 = .ok (.iaload, 1) := by decide +kernel
theorem dL_law_267 : decode cL_law 267 = .ok (.aload_n 0, 1) := by decide +kernel
theorem dL_law_268 : decode cL_law 268 = .ok (.iload_n 3, 1) := by decide +kernel
theorem dL_law_269 : decode cL_law 269 = .ok (.iconst 2, 1) := by decide +kernel
theorem dL_law_270 : decode cL_law 270 = .ok (.iadd, 1) := by decide +kernel
theorem dL_law_271 : decode cL_law 271 = .ok (.iaload, 1) := by decide +kernel
theorem dL_law_272 : decode cL_law 272 = .ok (.invokevirtual 29, 3) := by decide +kernel
theorem dL_law_275 : decode cL_law 275 = .ok (.if_icmp .eq 658, 3) := by decide +kernel
theorem dL_law_278 : decode cL_law 278 = .ok (.iconst 0, 1) := by decide +kernel
theorem dL_law_279 : decode cL_law 279 = .ok (.ireturn, 1) := by decide +kernel
theorem dL_law_280 : decode cL_law 280 = .ok (.aload_n 1, 1) := by decide +kernel
theorem dL_law_281 : decode cL_law 281 = .ok (.aload_n 0, 1) := by decide +kernel
theorem dL_law_282 : decode cL_law 282 = .ok (.iload_n 3, 1) := by decide +kernel
theorem dL_law_283 : decode cL_law 283 = .ok (.iconst 1, 1) := by decide +kernel
theorem dL_law_284 : decode cL_law 284 = .ok (.iadd, 1) := by decide +kernel
theorem dL_law_285 : decode cL_law 285 = .ok (.iaload, 1) := by decide +kernel
theorem dL_law_286 : decode cL_law 286 = .ok (.aload_n 0, 1) := by decide +kernel
theorem dL_law_287 : decode cL_law 287 = .ok (.iload_n 3, 1) := by decide +kernel
theorem dL_law_288 : decode cL_law 288 = .ok (.iconst 2, 1) := by decide +kernel
theorem dL_law_289 : decode cL_law 289 = .ok (.iadd, 1) := by decide +kernel
theorem dL_law_290 : decode cL_law 290 = .ok (.iaload, 1) := by decide +kernel
theorem dL_law_291 : decode cL_law 291 = .ok (.invokevirtual 30, 3) := by decide +kernel
theorem dL_law_294 : decode cL_law 294 = .ok (.aload_n 2, 1) := by decide +kernel
theorem dL_law_295 : decode cL_law 295 = .ok (.aload_n 0, 1) := by decide +kernel
theorem dL_law_296 : decode cL_law 296 = .ok (.iload_n 3, 1) := by decide +kernel
theorem dL_law_297 : decode cL_law 297 = .ok (.iconst 1, 1) := by decide +kernel
theorem dL_law_298 : decode cL_law 298 = .ok (.iadd, 1) := by decide +kernel
theorem dL_law_299 : decode cL_law 299 = .ok (.iaload, 1) := by decide +kernel
theorem dL_law_300 : decode cL_law 300 = .ok (.aload_n 0, 1) := by decide +kernel
theorem dL_law_301 : decode cL_law 301 = .ok (.iload_n 3, 1) := by decide +kernel
theorem dL_law_302 : decode cL_law 302 = .ok (.iconst 2, 1) := by decide +kernel
theorem dL_law_303 : decode cL_law 303 = .ok (.iadd, 1) := by decide +kernel
theorem dL_law_304 : decode cL_law 304 = .ok (.iaload, 1) := by decide +kernel
theorem dL_law_305 : decode cL_law 305 = .ok (.invokevirtual 33, 3) := by decide +kernel
theorem dL_law_308 : decode cL_law 308 = .ok (.if_icmp .eq 625, 3) := by decide +kernel
theorem dL_law_311 : decode cL_law 311 = .ok (.iconst 0, 1) := by decide +kernel
theorem dL_law_312 : decode cL_law 312 = .ok (.ireturn, 1) := by decide +kernel
theorem dL_law_313 : decode cL_law 313 = .ok (.aload_n 1, 1) := by decide +kernel
theorem dL_law_314 : decode cL_law 314 = .ok (.aload_n 0, 1) := by decide +kernel
theorem dL_law_315 : decode cL_law 315 = .ok (.iload_n 3, 1) := by decide +kernel
theorem dL_law_316 : decode cL_law 316 = .ok (.iconst 1, 1) := by decide +kernel
theorem dL_law_317 : decode cL_law 317 = .ok (.iadd, 1) := by decide +kernel
theorem dL_law_318 : decode cL_law 318 = .ok (.iaload, 1) := by decide +kernel
theorem dL_law_319 : decode cL_law 319 = .ok (.aload_n 0, 1) := by decide +kernel
theorem dL_law_320 : decode cL_law 320 = .ok (.iload_n 3, 1) := by decide +kernel
theorem dL_law_321 : decode cL_law 321 = .ok (.iconst 2, 1) := by decide +kernel
theorem dL_law_322 : decode cL_law 322 = .ok (.iadd, 1) := by decide +kernel
theorem dL_law_323 : decode cL_law 323 = .ok (.iaload, 1) := by decide +kernel
theorem dL_law_324 : decode cL_law 324 = .ok (.aload_n 0, 1) := by decide +kernel
theorem dL_law_325 : decode cL_law 325 = .ok (.iload_n 3, 1) := by decide +kernel
theorem dL_law_326 : decode cL_law 326 = .ok (.iconst 3, 1) := by decide +kernel
theorem dL_law_327 : decode cL_law 327 = .ok (.iadd, 1) := by decide +kernel
theorem dL_law_328 : decode cL_law 328 = .ok (.iaload, 1) := by decide +kernel
theorem dL_law_329 : decode cL_law 329 = .ok (.invokevirtual 34, 3) := by decide +kernel
theorem dL_law_332 : decode cL_law 332 = .ok (.aload_n 2, 1) := by decide +kernel
theorem dL_law_333 : decode cL_law 333 = .ok (.aload_n 0, 1) := by decide +kernel
theorem dL_law_334 : decode cL_law 334 = .ok (.iload_n 3, 1) := by decide +kernel
theorem dL_law_335 : decode cL_law 335 = .ok (.iconst 1, 1) := by decide +kernel
theorem dL_law_336 : decode cL_law 336 = .ok (.iadd, 1) := by decide +kernel
theorem dL_law_337 : decode cL_law 337 = .ok (.iaload, 1) := by decide +kernel
theorem dL_law_338 : decode cL_law 338 = .ok (.aload_n 0, 1) := by decide +kernel
theorem dL_law_339 : decode cL_law 339 = .ok (.iload_n 3, 1) := by decide +kernel
theorem dL_law_340 : decode cL_law 340 = .ok (.iconst 2, 1) := by decide +kernel
theorem dL_law_341 : decode cL_law 341 = .ok (.iadd, 1) := by decide +kernel
theorem dL_law_342 : decode cL_law 342 = .ok (.iaload, 1) := by decide +kernel
theorem dL_law_343 : decode cL_law 343 = .ok (.aload_n 0, 1) := by decide +kernel
theorem dL_law_344 : decode cL_law 344 = .ok (.iload_n 3, 1) := by decide +kernel
theorem dL_law_345 : decode cL_law 345 = .ok (.iconst 3, 1) := by decide +kernel
theorem dL_law_346 : decode cL_law 346 = .ok (.iadd, 1) := by decide +kernel
theorem dL_law_347 : decode cL_law 347 = .ok (.iaload, 1) := by decide +kernel
theorem dL_law_348 : decode cL_law 348 = .ok (.invokevirtual 38, 3) := by decide +kernel
theorem dL_law_351 : decode cL_law 351 = .ok (.if_icmp .eq 582, 3) := by decide +kernel
theorem dL_law_354 : decode cL_law 354 = .ok (.iconst 0, 1) := by decide +kernel
theorem dL_law_355 : decode cL_law 355 = .ok (.ireturn, 1) := by decide +kernel
theorem dL_law_356 : decode cL_law 356 = .ok (.aload_n 1, 1) := by decide +kernel
theorem dL_law_357 : decode cL_law 357 = .ok (.aload_n 0, 1) := by decide +kernel
theorem dL_law_358 : decode cL_law 358 = .ok (.iload_n 3, 1) := by decide +kernel
theorem dL_law_359 : decode cL_law 359 = .ok (.iconst 1, 1) := by decide +kernel
theorem dL_law_360 : decode cL_law 360 = .ok (.iadd, 1) := by decide +kernel
theorem dL_law_361 : decode cL_law 361 = .ok (.iaload, 1) := by decide +kernel
theorem dL_law_362 : decode cL_law 362 = .ok (.invokevirtual 39, 3) := by decide +kernel
theorem dL_law_365 : decode cL_law 365 = .ok (.aload_n 2, 1) := by decide +kernel
theorem dL_law_366 : decode cL_law 366 = .ok (.aload_n 0, 1) := by decide +kernel
theorem dL_law_367 : decode cL_law 367 = .ok (.iload_n 3, 1) := by decide +kernel
theorem dL_law_368 : decode cL_law 368 = .ok (.iconst 1, 1) := by decide +kernel
theorem dL_law_369 : decode cL_law 369 = .ok (.iadd, 1) := by decide +kernel
theorem dL_law_370 : decode cL_law 370 = .ok (.iaload, 1) := by decide +kernel
theorem dL_law_371 : decode cL_law 371 = .ok (.invokevirtual 43, 3) := by decide +kernel
theorem dL_law_374 : decode cL_law 374 = .ok (.if_icmp .eq 559, 3) := by decide +kernel
theorem dL_law_377 : decode cL_law 377 = .ok (.iconst 0, 1) := by decide +kernel
theorem dL_law_378 : decode cL_law 378 = .ok (.ireturn, 1) := by decide +kernel
theorem dL_law_379 : decode cL_law 379 = .ok (.aload_n 1, 1) := by decide +kernel
theorem dL_law_380 : decode cL_law 380 = .ok (.aload_n 0, 1) := by decide +kernel
theorem dL_law_381 : decode cL_law 381 = .ok (.iload_n 3, 1) := by decide +kernel
theorem dL_law_382 : decode cL_law 382 = .ok (.iconst 1, 1) := by decide +kernel
theorem dL_law_383 : decode cL_law 383 = .ok (.iadd, 1) := by decide +kernel
theorem dL_law_384 : decode cL_law 384 = .ok (.iaload, 1) := by decide +kernel
theorem dL_law_385 : decode cL_law 385 = .ok (.aload_n 0, 1) := by decide +kernel
theorem dL_law_386 : decode cL_law 386 = .ok (.iload_n 3, 1) := by decide +kernel
theorem dL_law_387 : decode cL_law 387 = .ok (.iconst 2, 1) := by decide +kernel
theorem dL_law_388 : decode cL_law 388 = .ok (.iadd, 1) := by decide +kernel
theorem dL_law_389 : decode cL_law 389 = .ok (.iaload, 1) := by decide +kernel
theorem dL_law_390 : decode cL_law 390 = .ok (.invokevirtual 44, 3) := by decide +kernel
theorem dL_law_393 : decode cL_law 393 = .ok (.aload_n 2, 1) := by decide +kernel
theorem dL_law_394 : decode cL_law 394 = .ok (.aload_n 0, 1) := by decide +kernel
theorem dL_law_395 : decode cL_law 395 = .ok (.iload_n 3, 1) := by decide +kernel
theorem dL_law_396 : decode cL_law 396 = .ok (.iconst 1, 1) := by decide +kernel
theorem dL_law_397 : decode cL_law 397 = .ok (.iadd, 1) := by decide +kernel
theorem dL_law_398 : decode cL_law 398 = .ok (.iaload, 1) := by decide +kernel
theorem dL_law_399 : decode cL_law 399 = .ok (.aload_n 0, 1) := by decide +kernel
theorem dL_law_400 : decode cL_law 400 = .ok (.iload_n 3, 1) := by decide +kernel
theorem dL_law_401 : decode cL_law 401 = .ok (.iconst 2, 1) := by decide +kernel
theorem dL_law_402 : decode cL_law 402 = .ok (.iadd, 1) := by decide +kernel
theorem dL_law_403 : decode cL_law 403 = .ok (.iaload, 1) := by decide +kernel
theorem dL_law_404 : decode cL_law 404 = .ok (.invokevirtual 47, 3) := by decide +kernel
theorem dL_law_407 : decode cL_law 407 = .ok (.if_icmp .eq 526, 3) := by decide +kernel
theorem dL_law_410 : decode cL_law 410 = .ok (.iconst 0, 1) := by decide +kernel
theorem dL_law_411 : decode cL_law 411 = .ok (.ireturn, 1) := by decide +kernel
theorem dL_law_412 : decode cL_law 412 = .ok (.aload_n 1, 1) := by decide +kernel
theorem dL_law_413 : decode cL_law 413 = .ok (.aload_n 0, 1) := by decide +kernel
theorem dL_law_414 : decode cL_law 414 = .ok (.iload_n 3, 1) := by decide +kernel
theorem dL_law_415 : decode cL_law 415 = .ok (.iconst 1, 1) := by decide +kernel
theorem dL_law_416 : decode cL_law 416 = .ok (.iadd, 1) := by decide +kernel
theorem dL_law_417 : decode cL_law 417 = .ok (.iaload, 1) := by decide +kernel
theorem dL_law_418 : decode cL_law 418 = .ok (.invokevirtual 48, 3) := by decide +kernel
theorem dL_law_421 : decode cL_law 421 = .ok (.aload_n 2, 1) := by decide +kernel
theorem dL_law_422 : decode cL_law 422 = .ok (.aload_n 0, 1) := by decide +kernel
theorem dL_law_423 : decode cL_law 423 = .ok (.iload_n 3, 1) := by decide +kernel
theorem dL_law_424 : decode cL_law 424 = .ok (.iconst 1, 1) := by decide +kernel
theorem dL_law_425 : decode cL_law 425 = .ok (.iadd, 1) := by decide +kernel
theorem dL_law_426 : decode cL_law 426 = .ok (.iaload, 1) := by decide +kernel
theorem dL_law_427 : decode cL_law 427 = .ok (.invokevirtual 51, 3) := by decide +kernel
theorem dL_law_430 : decode cL_law 430 = .ok (.if_icmp .eq 503, 3) := by decide +kernel
theorem dL_law_433 : decode cL_law 433 = .ok (.iconst 0, 1) := by decide +kernel
theorem dL_law_434 : decode cL_law 434 = .ok (.ireturn, 1) := by decide +kernel
theorem dL_law_435 : decode cL_law 435 = .ok (.aload_n 1, 1) := by decide +kernel
theorem dL_law_436 : decode cL_law 436 = .ok (.aload_n 0, 1) := by decide +kernel
theorem dL_law_437 : decode cL_law 437 = .ok (.iload_n 3, 1) := by decide +kernel
theorem dL_law_438 : decode cL_law 438 = .ok (.iconst 1, 1) := by decide +kernel
theorem dL_law_439 : decode cL_law 439 = .ok (.iadd, 1) := by decide +kernel
theorem dL_law_440 : decode cL_law 440 = .ok (.iaload, 1) := by decide +kernel
theorem dL_law_441 : decode cL_law 441 = .ok (.invokevirtual 52, 3) := by decide +kernel
theorem dL_law_444 : decode cL_law 444 = .ok (.aload_n 2, 1) := by decide +kernel
theorem dL_law_445 : decode cL_law 445 = .ok (.aload_n 0, 1) := by decide +kernel
theorem dL_law_446 : decode cL_law 446 = .ok (.iload_n 3, 1) := by decide +kernel
theorem dL_law_447 : decode cL_law 447 = .ok (.iconst 1, 1) := by decide +kernel
theorem dL_law_448 : decode cL_law 448 = .ok (.iadd, 1) := by decide +kernel
theorem dL_law_449 : decode cL_law 449 = .ok (.iaload, 1) := by decide +kernel
theorem dL_law_450 : decode cL_law 450 = .ok (.invokevirtual 55, 3) := by decide +kernel
theorem dL_law_453 : decode cL_law 453 = .ok (.if_icmp .eq 480, 3) := by decide +kernel
theorem dL_law_456 : decode cL_law 456 = .ok (.iconst 0, 1) := by decide +kernel
theorem dL_law_457 : decode cL_law 457 = .ok (.ireturn, 1) := by decide +kernel
theorem dL_law_458 : decode cL_law 458 = .ok (.aload_n 1, 1) := by decide +kernel
theorem dL_law_459 : decode cL_law 459 = .ok (.aload_n 0, 1) := by decide +kernel
theorem dL_law_460 : decode cL_law 460 = .ok (.iload_n 3, 1) := by decide +kernel
theorem dL_law_461 : decode cL_law 461 = .ok (.iconst 1, 1) := by decide +kernel
theorem dL_law_462 : decode cL_law 462 = .ok (.iadd, 1) := by decide +kernel
theorem dL_law_463 : decode cL_law 463 = .ok (.iaload, 1) := by decide +kernel
theorem dL_law_464 : decode cL_law 464 = .ok (.invokevirtual 56, 3) := by decide +kernel
theorem dL_law_467 : decode cL_law 467 = .ok (.aload_n 2, 1) := by decide +kernel
theorem dL_law_468 : decode cL_law 468 = .ok (.aload_n 0, 1) := by decide +kernel
theorem dL_law_469 : decode cL_law 469 = .ok (.iload_n 3, 1) := by decide +kernel
theorem dL_law_470 : decode cL_law 470 = .ok (.iconst 1, 1) := by decide +kernel
theorem dL_law_471 : decode cL_law 471 = .ok (.iadd, 1) := by decide +kernel
theorem dL_law_472 : decode cL_law 472 = .ok (.iaload, 1) := by decide +kernel
theorem dL_law_473 : decode cL_law 473 = .ok (.invokevirtual 59, 3) := by decide +kernel
theorem dL_law_476 : decode cL_law 476 = .ok (.if_icmp .eq 457, 3) := by decide +kernel
theorem dL_law_479 : decode cL_law 479 = .ok (.iconst 0, 1) := by decide +kernel
theorem dL_law_480 : decode cL_law 480 = .ok (.ireturn, 1) := by decide +kernel
theorem dL_law_481 : decode cL_law 481 = .ok (.aload_n 1, 1) := by decide +kernel
theorem dL_law_482 : decode cL_law 482 = .ok (.aload_n 0, 1) := by decide +kernel
theorem dL_law_483 : decode cL_law 483 = .ok (.iload_n 3, 1) := by decide +kernel
theorem dL_law_484 : decode cL_law 484 = .ok (.iconst 1, 1) := by decide +kernel
theorem dL_law_485 : decode cL_law 485 = .ok (.iadd, 1) := by decide +kernel
theorem dL_law_486 : decode cL_law 486 = .ok (.iaload, 1) := by decide +kernel
theorem dL_law_487 : decode cL_law 487 = .ok (.invokevirtual 60, 3) := by decide +kernel
theorem dL_law_490 : decode cL_law 490 = .ok (.aload_n 2, 1) := by decide +kernel
theorem dL_law_491 : decode cL_law 491 = .ok (.aload_n 0, 1) := by decide +kernel
theorem dL_law_492 : decode cL_law 492 = .ok (.iload_n 3, 1) := by decide +kernel
theorem dL_law_493 : decode cL_law 493 = .ok (.iconst 1, 1) := by decide +kernel
theorem dL_law_494 : decode cL_law 494 = .ok (.iadd, 1) := by decide +kernel
theorem dL_law_495 : decode cL_law 495 = .ok (.iaload, 1) := by decide +kernel
theorem dL_law_496 : decode cL_law 496 = .ok (.invokevirtual 63, 3) := by decide +kernel
theorem dL_law_499 : decode cL_law 499 = .ok (.if_icmp .eq 434, 3) := by decide +kernel
theorem dL_law_502 : decode cL_law 502 = .ok (.iconst 0, 1) := by decide +kernel
theorem dL_law_503 : decode cL_law 503 = .ok (.ireturn, 1) := by decide +kernel
theorem dL_law_504 : decode cL_law 504 = .ok (.aload_n 1, 1) := by decide +kernel
theorem dL_law_505 : decode cL_law 505 = .ok (.aload_n 0, 1) := by decide +kernel
theorem dL_law_506 : decode cL_law 506 = .ok (.iload_n 3, 1) := by decide +kernel
theorem dL_law_507 : decode cL_law 507 = .ok (.iconst 1, 1) := by decide +kernel
theorem dL_law_508 : decode cL_law 508 = .ok (.iadd, 1) := by decide +kernel
theorem dL_law_509 : decode cL_law 509 = .ok (.iaload, 1) := by decide +kernel
theorem dL_law_510 : decode cL_law 510 = .ok (.invokevirtual 64, 3) := by decide +kernel
theorem dL_law_513 : decode cL_law 513 = .ok (.aload_n 2, 1) := by decide +kernel
theorem dL_law_514 : decode cL_law 514 = .ok (.aload_n 0, 1) := by decide +kernel
theorem dL_law_515 : decode cL_law 515 = .ok (.iload_n 3, 1) := by decide +kernel
theorem dL_law_516 : decode cL_law 516 = .ok (.iconst 1, 1) := by decide +kernel
theorem dL_law_517 : decode cL_law 517 = .ok (.iadd, 1) := by decide +kernel
theorem dL_law_518 : decode cL_law 518 = .ok (.iaload, 1) := by decide +kernel
theorem dL_law_519 : decode cL_law 519 = .ok (.invokevirtual 67, 3) := by decide +kernel
theorem dL_law_522 : decode cL_law 522 = .ok (.if_icmp .eq 411, 3) := by decide +kernel
theorem dL_law_525 : decode cL_law 525 = .ok (.iconst 0, 1) := by decide +kernel
theorem dL_law_526 : decode cL_law 526 = .ok (.ireturn, 1) := by decide +kernel
theorem dL_law_527 : decode cL_law 527 = .ok (.aload_n 1, 1) := by decide +kernel
theorem dL_law_528 : decode cL_law 528 = .ok (.aload_n 0, 1) := by decide +kernel
theorem dL_law_529 : decode cL_law 529 = .ok (.iload_n 3, 1) := by decide +kernel
theorem dL_law_530 : decode cL_law 530 = .ok (.iconst 1, 1) := by decide +kernel
theorem dL_law_531 : decode cL_law 531 = .ok (.iadd, 1) := by decide +kernel
theorem dL_law_532 : decode cL_law 532 = .ok (.iaload, 1) := by decide +kernel
theorem dL_law_533 : decode cL_law 533 = .ok (.invokevirtual 68, 3) := by decide +kernel
theorem dL_law_536 : decode cL_law 536 = .ok (.aload_n 2, 1) := by decide +kernel
theorem dL_law_537 : decode cL_law 537 = .ok (.aload_n 0, 1) := by decide +kernel
theorem dL_law_538 : decode cL_law 538 = .ok (.iload_n 3, 1) := by decide +kernel
theorem dL_law_539 : decode cL_law 539 = .ok (.iconst 1, 1) := by decide +kernel
theorem dL_law_540 : decode cL_law 540 = .ok (.iadd, 1) := by decide +kernel
theorem dL_law_541 : decode cL_law 541 = .ok (.iaload, 1) := by decide +kernel
theorem dL_law_542 : decode cL_law 542 = .ok (.invokevirtual 71, 3) := by decide +kernel
theorem dL_law_545 : decode cL_law 545 = .ok (.if_icmp .eq 388, 3) := by decide +kernel
theorem dL_law_548 : decode cL_law 548 = .ok (.iconst 0, 1) := by decide +kernel
theorem dL_law_549 : decode cL_law 549 = .ok (.ireturn, 1) := by decide +kernel
theorem dL_law_550 : decode cL_law 550 = .ok (.aload_n 1, 1) := by decide +kernel
theorem dL_law_551 : decode cL_law 551 = .ok (.invokevirtual 72, 3) := by decide +kernel
theorem dL_law_554 : decode cL_law 554 = .ok (.aload_n 2, 1) := by decide +kernel
theorem dL_law_555 : decode cL_law 555 = .ok (.invokevirtual 76, 3) := by decide +kernel
theorem dL_law_558 : decode cL_law 558 = .ok (.if_icmp .eq 375, 3) := by decide +kernel
theorem dL_law_561 : decode cL_law 561 = .ok (.iconst 0, 1) := by decide +kernel
theorem dL_law_562 : decode cL_law 562 = .ok (.ireturn, 1) := by decide +kernel
theorem dL_law_563 : decode cL_law 563 = .ok (.aload_n 1, 1) := by decide +kernel
theorem dL_law_564 : decode cL_law 564 = .ok (.aload_n 0, 1) := by decide +kernel
theorem dL_law_565 : decode cL_law 565 = .ok (.iload_n 3, 1) := by decide +kernel
theorem dL_law_566 : decode cL_law 566 = .ok (.iconst 1, 1) := by decide +kernel
theorem dL_law_567 : decode cL_law 567 = .ok (.iadd, 1) := by decide +kernel
theorem dL_law_568 : decode cL_law 568 = .ok (.iaload, 1) := by decide +kernel
theorem dL_law_569 : decode cL_law 569 = .ok (.invokevirtual 77, 3) := by decide +kernel
theorem dL_law_572 : decode cL_law 572 = .ok (.aload_n 2, 1) := by decide +kernel
theorem dL_law_573 : decode cL_law 573 = .ok (.aload_n 0, 1) := by decide +kernel
theorem dL_law_574 : decode cL_law 574 = .ok (.iload_n 3, 1) := by decide +kernel
theorem dL_law_575 : decode cL_law 575 = .ok (.iconst 1, 1) := by decide +kernel
theorem dL_law_576 : decode cL_law 576 = .ok (.iadd, 1) := by decide +kernel
theorem dL_law_577 : decode cL_law 577 = .ok (.iaload, 1) := by decide +kernel
theorem dL_law_578 : decode cL_law 578 = .ok (.invokevirtual 80, 3) := by decide +kernel
theorem dL_law_581 : decode cL_law 581 = .ok (.if_icmp .eq 352, 3) := by decide +kernel
theorem dL_law_584 : decode cL_law 584 = .ok (.iconst 0, 1) := by decide +kernel
theorem dL_law_585 : decode cL_law 585 = .ok (.ireturn, 1) := by decide +kernel
theorem dL_law_586 : decode cL_law 586 = .ok (.aload_n 1, 1) := by decide +kernel
theorem dL_law_587 : decode cL_law 587 = .ok (.aload_n 0, 1) := by decide +kernel
theorem dL_law_588 : decode cL_law 588 = .ok (.iload_n 3, 1) := by decide +kernel
theorem dL_law_589 : decode cL_law 589 = .ok (.iconst 1, 1) := by decide +kernel
theorem dL_law_590 : decode cL_law 590 = .ok (.iadd, 1) := by decide +kernel
theorem dL_law_591 : decode cL_law 591 = .ok (.iaload, 1) := by decide +kernel
theorem dL_law_592 : decode cL_law 592 = .ok (.aload_n 0, 1) := by decide +kernel
theorem dL_law_593 : decode cL_law 593 = .ok (.iload_n 3, 1) := by decide +kernel
theorem dL_law_594 : decode cL_law 594 = .ok (.iconst 2, 1) := by decide +kernel
theorem dL_law_595 : decode cL_law 595 = .ok (.iadd, 1) := by decide +kernel
theorem dL_law_596 : decode cL_law 596 = .ok (.iaload, 1) := by decide +kernel
theorem dL_law_597 : decode cL_law 597 = .ok (.aload_n 0, 1) := by decide +kernel
theorem dL_law_598 : decode cL_law 598 = .ok (.iload_n 3, 1) := by decide +kernel
theorem dL_law_599 : decode cL_law 599 = .ok (.iconst 3, 1) := by decide +kernel
theorem dL_law_600 : decode cL_law 600 = .ok (.iadd, 1) := by decide +kernel
theorem dL_law_601 : decode cL_law 601 = .ok (.iaload, 1) := by decide +kernel
theorem dL_law_602 : decode cL_law 602 = .ok (.aload_n 0, 1) := by decide +kernel
theorem dL_law_603 : decode cL_law 603 = .ok (.iload_n 3, 1) := by decide +kernel
theorem dL_law_604 : decode cL_law 604 = .ok (.iconst 4, 1) := by decide +kernel
theorem dL_law_605 : decode cL_law 605 = .ok (.iadd, 1) := by decide +kernel
theorem dL_law_606 : decode cL_law 606 = .ok (.iaload, 1) := by decide +kernel
theorem dL_law_607 : decode cL_law 607 = .ok (.aload_n 0, 1) := by decide +kernel
theorem dL_law_608 : decode cL_law 608 = .ok (.iload_n 3, 1) := by decide +kernel
theorem dL_law_609 : decode cL_law 609 = .ok (.iconst 5, 1) := by decide +kernel
theorem dL_law_610 : decode cL_law 610 = .ok (.iadd, 1) := by decide +kernel
theorem dL_law_611 : decode cL_law 611 = .ok (.iaload, 1) := by decide +kernel
theorem dL_law_612 : decode cL_law 612 = .ok (.invokevirtual 81, 3) := by decide +kernel
theorem dL_law_615 : decode cL_law 615 = .ok (.aload_n 2, 1) := by decide +kernel
theorem dL_law_616 : decode cL_law 616 = .ok (.aload_n 0, 1) := by decide +kernel
theorem dL_law_617 : decode cL_law 617 = .ok (.iload_n 3, 1) := by decide +kernel
theorem dL_law_618 : decode cL_law 618 = .ok (.iconst 1, 1) := by decide +kernel
theorem dL_law_619 : decode cL_law 619 = .ok (.iadd, 1) := by decide +kernel
theorem dL_law_620 : decode cL_law 620 = .ok (.iaload, 1) := by decide +kernel
theorem dL_law_621 : decode cL_law 621 = .ok (.aload_n 0, 1) := by decide +kernel
theorem dL_law_622 : decode cL_law 622 = .ok (.iload_n 3, 1) := by decide +kernel
theorem dL_law_623 : decode cL_law 623 = .ok (.iconst 2, 1) := by decide +kernel
theorem dL_law_624 : decode cL_law 624 = .ok (.iadd, 1) := by decide +kernel
theorem dL_law_625 : decode cL_law 625 = .ok (.iaload, 1) := by decide +kernel
theorem dL_law_626 : decode cL_law 626 = .ok (.aload_n 0, 1) := by decide +kernel
theorem dL_law_627 : decode cL_law 627 = .ok (.iload_n 3, 1) := by decide +kernel
theorem dL_law_628 : decode cL_law 628 = .ok (.iconst 3, 1) := by decide +kernel
theorem dL_law_629 : decode cL_law 629 = .ok (.iadd, 1) := by decide +kernel
theorem dL_law_630 : decode cL_law 630 = .ok (.iaload, 1) := by decide +kernel
theorem dL_law_631 : decode cL_law 631 = .ok (.aload_n 0, 1) := by decide +kernel
theorem dL_law_632 : decode cL_law 632 = .ok (.iload_n 3, 1) := by decide +kernel
theorem dL_law_633 : decode cL_law 633 = .ok (.iconst 4, 1) := by decide +kernel
theorem dL_law_634 : decode cL_law 634 = .ok (.iadd, 1) := by decide +kernel
theorem dL_law_635 : decode cL_law 635 = .ok (.iaload, 1) := by decide +kernel
theorem dL_law_636 : decode cL_law 636 = .ok (.aload_n 0, 1) := by decide +kernel
theorem dL_law_637 : decode cL_law 637 = .ok (.iload_n 3, 1) := by decide +kernel
theorem dL_law_638 : decode cL_law 638 = .ok (.iconst 5, 1) := by decide +kernel
theorem dL_law_639 : decode cL_law 639 = .ok (.iadd, 1) := by decide +kernel
theorem dL_law_640 : decode cL_law 640 = .ok (.iaload, 1) := by decide +kernel
theorem dL_law_641 : decode cL_law 641 = .ok (.invokevirtual 85, 3) := by decide +kernel
theorem dL_law_644 : decode cL_law 644 = .ok (.if_icmp .eq 289, 3) := by decide +kernel
theorem dL_law_647 : decode cL_law 647 = .ok (.iconst 0, 1) := by decide +kernel
theorem dL_law_648 : decode cL_law 648 = .ok (.ireturn, 1) := by decide +kernel
theorem dL_law_649 : decode cL_law 649 = .ok (.aload_n 1, 1) := by decide +kernel
theorem dL_law_650 : decode cL_law 650 = .ok (.aload_n 0, 1) := by decide +kernel
theorem dL_law_651 : decode cL_law 651 = .ok (.iload_n 3, 1) := by decide +kernel
theorem dL_law_652 : decode cL_law 652 = .ok (.iconst 1, 1) := by decide +kernel
theorem dL_law_653 : decode cL_law 653 = .ok (.iadd, 1) := by decide +kernel
theorem dL_law_654 : decode cL_law 654 = .ok (.iaload, 1) := by decide +kernel
theorem dL_law_655 : decode cL_law 655 = .ok (.aload_n 0, 1) := by decide +kernel
theorem dL_law_656 : decode cL_law 656 = .ok (.iload_n 3, 1) := by decide +kernel
theorem dL_law_657 : decode cL_law 657 = .ok (.iconst 2, 1) := by decide +kernel
theorem dL_law_658 : decode cL_law 658 = .ok (.iadd, 1) := by decide +kernel
theorem dL_law_659 : decode cL_law 659 = .ok (.iaload, 1) := by decide +kernel
theorem dL_law_660 : decode cL_law 660 = .ok (.aload_n 0, 1) := by decide +kernel
theorem dL_law_661 : decode cL_law 661 = .ok (.iload_n 3, 1) := by decide +kernel
theorem dL_law_662 : decode cL_law 662 = .ok (.iconst 3, 1) := by decide +kernel
theorem dL_law_663 : decode cL_law 663 = .ok (.iadd, 1) := by decide +kernel
theorem dL_law_664 : decode cL_law 664 = .ok (.iaload, 1) := by decide +kernel
theorem dL_law_665 : decode cL_law 665 = .ok (.aload_n 0, 1) := by decide +kernel
theorem dL_law_666 : decode cL_law 666 = .ok (.iload_n 3, 1) := by decide +kernel
theorem dL_law_667 : decode cL_law 667 = .ok (.iconst 4, 1) := by decide +kernel
theorem dL_law_668 : decode cL_law 668 = .ok (.iadd, 1) := by decide +kernel
theorem dL_law_669 : decode cL_law 669 = .ok (.iaload, 1) := by decide +kernel
theorem dL_law_670 : decode cL_law 670 = .ok (.aload_n 0, 1) := by decide +kernel
theorem dL_law_671 : decode cL_law 671 = .ok (.iload_n 3, 1) := by decide +kernel
theorem dL_law_672 : decode cL_law 672 = .ok (.iconst 5, 1) := by decide +kernel
theorem dL_law_673 : decode cL_law 673 = .ok (.iadd, 1) := by decide +kernel
theorem dL_law_674 : decode cL_law 674 = .ok (.iaload, 1) := by decide +kernel
theorem dL_law_675 : decode cL_law 675 = .ok (.invokevirtual 86, 3) := by decide +kernel
theorem dL_law_678 : decode cL_law 678 = .ok (.aload_n 2, 1) := by decide +kernel
theorem dL_law_679 : decode cL_law 679 = .ok (.aload_n 0, 1) := by decide +kernel
theorem dL_law_680 : decode cL_law 680 = .ok (.iload_n 3, 1) := by decide +kernel
theorem dL_law_681 : decode cL_law 681 = .ok (.iconst 1, 1) := by decide +kernel
theorem dL_law_682 : decode cL_law 682 = .ok (.iadd, 1) := by decide +kernel
theorem dL_law_683 : decode cL_law 683 = .ok (.iaload, 1) := by decide +kernel
theorem dL_law_684 : decode cL_law 684 = .ok (.aload_n 0, 1) := by decide +kernel
theorem dL_law_685 : decode cL_law 685 = .ok (.iload_n 3, 1) := by decide +kernel
theorem dL_law_686 : decode cL_law 686 = .ok (.iconst 2, 1) := by decide +kernel
theorem dL_law_687 : decode cL_law 687 = .ok (.iadd, 1) := by decide +kernel
theorem dL_law_688 : decode cL_law 688 = .ok (.iaload, 1) := by decide +kernel
theorem dL_law_689 : decode cL_law 689 = .ok (.aload_n 0, 1) := by decide +kernel
theorem dL_law_690 : decode cL_law 690 = .ok (.iload_n 3, 1) := by decide +kernel
theorem dL_law_691 : decode cL_law 691 = .ok (.iconst 3, 1) := by decide +kernel
theorem dL_law_692 : decode cL_law 692 = .ok (.iadd, 1) := by decide +kernel
theorem dL_law_693 : decode cL_law 693 = .ok (.iaload, 1) := by decide +kernel
theorem dL_law_694 : decode cL_law 694 = .ok (.aload_n 0, 1) := by decide +kernel
theorem dL_law_695 : decode cL_law 695 = .ok (.iload_n 3, 1) := by decide +kernel
theorem dL_law_696 : decode cL_law 696 = .ok (.iconst 4, 1) := by decide +kernel
theorem dL_law_697 : decode cL_law 697 = .ok (.iadd, 1) := by decide +kernel
theorem dL_law_698 : decode cL_law 698 = .ok (.iaload, 1) := by decide +kernel
theorem dL_law_699 : decode cL_law 699 = .ok (.aload_n 0, 1) := by decide +kernel
theorem dL_law_700 : decode cL_law 700 = .ok (.iload_n 3, 1) := by decide +kernel
theorem dL_law_701 : decode cL_law 701 = .ok (.iconst 5, 1) := by decide +kernel
theorem dL_law_702 : decode cL_law 702 = .ok (.iadd, 1) := by decide +kernel
theorem dL_law_703 : decode cL_law 703 = .ok (.iaload, 1) := by decide +kernel
theorem dL_law_704 : decode cL_law 704 = .ok (.invokevirtual 89, 3) := by decide +kernel
theorem dL_law_707 : decode cL_law 707 = .ok (.if_icmp .eq 226, 3) := by decide +kernel
theorem dL_law_710 : decode cL_law 710 = .ok (.iconst 0, 1) := by decide +kernel
theorem dL_law_711 : decode cL_law 711 = .ok (.ireturn, 1) := by decide +kernel
theorem dL_law_712 : decode cL_law 712 = .ok (.aload_n 1, 1) := by decide +kernel
theorem dL_law_713 : decode cL_law 713 = .ok (.aload_n 0, 1) := by decide +kernel
theorem dL_law_714 : decode cL_law 714 = .ok (.iload_n 3, 1) := by decide +kernel
theorem dL_law_715 : decode cL_law 715 = .ok (.iconst 1, 1) := by decide +kernel
theorem dL_law_716 : decode cL_law 716 = .ok (.iadd, 1) := by decide +kernel
theorem dL_law_717 : decode cL_law 717 = .ok (.iaload, 1) := by decide +kernel
theorem dL_law_718 : decode cL_law 718 = .ok (.i2l, 1) := by decide +kernel
theorem dL_law_719 : decode cL_law 719 = .ok (.bipush 32, 2) := by decide +kernel
theorem dL_law_721 : decode cL_law 721 = .ok (.lshl, 1) := by decide +kernel
theorem dL_law_722 : decode cL_law 722 = .ok (.aload_n 0, 1) := by decide +kernel
theorem dL_law_723 : decode cL_law 723 = .ok (.iload_n 3, 1) := by decide +kernel
theorem dL_law_724 : decode cL_law 724 = .ok (.iconst 2, 1) := by decide +kernel
theorem dL_law_725 : decode cL_law 725 = .ok (.iadd, 1) := by decide +kernel
theorem dL_law_726 : decode cL_law 726 = .ok (.iaload, 1) := by decide +kernel
theorem dL_law_727 : decode cL_law 727 = .ok (.i2l, 1) := by decide +kernel
theorem dL_law_728 : decode cL_law 728 = .ok (.ldc2_w 90, 3) := by decide +kernel
theorem dL_law_731 : decode cL_law 731 = .ok (.land, 1) := by decide +kernel
theorem dL_law_732 : decode cL_law 732 = .ok (.lor, 1) := by decide +kernel
theorem dL_law_733 : decode cL_law 733 = .ok (.aload_n 0, 1) := by decide +kernel
theorem dL_law_734 : decode cL_law 734 = .ok (.iload_n 3, 1) := by decide +kernel
theorem dL_law_735 : decode cL_law 735 = .ok (.iconst 3, 1) := by decide +kernel
theorem dL_law_736 : decode cL_law 736 = .ok (.iadd, 1) := by decide +kernel
theorem dL_law_737 : decode cL_law 737 = .ok (.iaload, 1) := by decide +kernel
theorem dL_law_738 : decode cL_law 738 = .ok (.invokevirtual 92, 3) := by decide +kernel
theorem dL_law_741 : decode cL_law 741 = .ok (.aload_n 2, 1) := by decide +kernel
theorem dL_law_742 : decode cL_law 742 = .ok (.aload_n 0, 1) := by decide +kernel
theorem dL_law_743 : decode cL_law 743 = .ok (.iload_n 3, 1) := by decide +kernel
theorem dL_law_744 : decode cL_law 744 = .ok (.iconst 1, 1) := by decide +kernel
theorem dL_law_745 : decode cL_law 745 = .ok (.iadd, 1) := by decide +kernel
theorem dL_law_746 : decode cL_law 746 = .ok (.iaload, 1) := by decide +kernel
theorem dL_law_747 : decode cL_law 747 = .ok (.i2l, 1) := by decide +kernel
theorem dL_law_748 : decode cL_law 748 = .ok (.bipush 32, 2) := by decide +kernel
theorem dL_law_750 : decode cL_law 750 = .ok (.lshl, 1) := by decide +kernel
theorem dL_law_751 : decode cL_law 751 = .ok (.aload_n 0, 1) := by decide +kernel
theorem dL_law_752 : decode cL_law 752 = .ok (.iload_n 3, 1) := by decide +kernel
theorem dL_law_753 : decode cL_law 753 = .ok (.iconst 2, 1) := by decide +kernel
theorem dL_law_754 : decode cL_law 754 = .ok (.iadd, 1) := by decide +kernel
theorem dL_law_755 : decode cL_law 755 = .ok (.iaload, 1) := by decide +kernel
theorem dL_law_756 : decode cL_law 756 = .ok (.i2l, 1) := by decide +kernel
theorem dL_law_757 : decode cL_law 757 = .ok (.ldc2_w 90, 3) := by decide +kernel
theorem dL_law_760 : decode cL_law 760 = .ok (.land, 1) := by decide +kernel
theorem dL_law_761 : decode cL_law 761 = .ok (.lor, 1) := by decide +kernel
theorem dL_law_762 : decode cL_law 762 = .ok (.aload_n 0, 1) := by decide +kernel
theorem dL_law_763 : decode cL_law 763 = .ok (.iload_n 3, 1) := by decide +kernel
theorem dL_law_764 : decode cL_law 764 = .ok (.iconst 3, 1) := by decide +kernel
theorem dL_law_765 : decode cL_law 765 = .ok (.iadd, 1) := by decide +kernel
theorem dL_law_766 : decode cL_law 766 = .ok (.iaload, 1) := by decide +kernel
theorem dL_law_767 : decode cL_law 767 = .ok (.invokevirtual 96, 3) := by decide +kernel
theorem dL_law_770 : decode cL_law 770 = .ok (.if_icmp .eq 163, 3) := by decide +kernel
theorem dL_law_773 : decode cL_law 773 = .ok (.iconst 0, 1) := by decide +kernel
theorem dL_law_774 : decode cL_law 774 = .ok (.ireturn, 1) := by decide +kernel
theorem dL_law_775 : decode cL_law 775 = .ok (.aload_n 1, 1) := by decide +kernel
theorem dL_law_776 : decode cL_law 776 = .ok (.invokevirtual 97, 3) := by decide +kernel
theorem dL_law_779 : decode cL_law 779 = .ok (.aload_n 2, 1) := by decide +kernel
theorem dL_law_780 : decode cL_law 780 = .ok (.invokevirtual 100, 3) := by decide +kernel
theorem dL_law_783 : decode cL_law 783 = .ok (.if_icmp .eq 150, 3) := by decide +kernel
theorem dL_law_786 : decode cL_law 786 = .ok (.iconst 0, 1) := by decide +kernel
theorem dL_law_787 : decode cL_law 787 = .ok (.ireturn, 1) := by decide +kernel
theorem dL_law_788 : decode cL_law 788 = .ok (.aload_n 1, 1) := by decide +kernel
theorem dL_law_789 : decode cL_law 789 = .ok (.invokevirtual 101, 3) := by decide +kernel
theorem dL_law_792 : decode cL_law 792 = .ok (.aload_n 2, 1) := by decide +kernel
theorem dL_law_793 : decode cL_law 793 = .ok (.invokevirtual 104, 3) := by decide +kernel
theorem dL_law_796 : decode cL_law 796 = .ok (.if_icmp .eq 137, 3) := by decide +kernel
theorem dL_law_799 : decode cL_law 799 = .ok (.iconst 0, 1) := by decide +kernel
theorem dL_law_800 : decode cL_law 800 = .ok (.ireturn, 1) := by decide +kernel
theorem dL_law_801 : decode cL_law 801 = .ok (.aload_n 1, 1) := by decide +kernel
theorem dL_law_802 : decode cL_law 802 = .ok (.invokevirtual 105, 3) := by decide +kernel
theorem dL_law_805 : decode cL_law 805 = .ok (.aload_n 2, 1) := by decide +kernel
theorem dL_law_806 : decode cL_law 806 = .ok (.invokevirtual 108, 3) := by decide +kernel
theorem dL_law_809 : decode cL_law 809 = .ok (.if_icmp .eq 124, 3) := by decide +kernel
theorem dL_law_812 : decode cL_law 812 = .ok (.iconst 0, 1) := by decide +kernel
theorem dL_law_813 : decode cL_law 813 = .ok (.ireturn, 1) := by decide +kernel
theorem dL_law_814 : decode cL_law 814 = .ok (.aload_n 1, 1) := by decide +kernel
theorem dL_law_815 : decode cL_law 815 = .ok (.aload_n 0, 1) := by decide +kernel
theorem dL_law_816 : decode cL_law 816 = .ok (.iload_n 3, 1) := by decide +kernel
theorem dL_law_817 : decode cL_law 817 = .ok (.iconst 1, 1) := by decide +kernel
theorem dL_law_818 : decode cL_law 818 = .ok (.iadd, 1) := by decide +kernel
theorem dL_law_819 : decode cL_law 819 = .ok (.iaload, 1) := by decide +kernel
theorem dL_law_820 : decode cL_law 820 = .ok (.aload_n 0, 1) := by decide +kernel
theorem dL_law_821 : decode cL_law 821 = .ok (.iload_n 3, 1) := by decide +kernel
theorem dL_law_822 : decode cL_law 822 = .ok (.iconst 2, 1) := by decide +kernel
theorem dL_law_823 : decode cL_law 823 = .ok (.iadd, 1) := by decide +kernel
theorem dL_law_824 : decode cL_law 824 = .ok (.iaload, 1) := by decide +kernel
theorem dL_law_825 : decode cL_law 825 = .ok (.aload_n 0, 1) := by decide +kernel
theorem dL_law_826 : decode cL_law 826 = .ok (.iload_n 3, 1) := by decide +kernel
theorem dL_law_827 : decode cL_law 827 = .ok (.iconst 3, 1) := by decide +kernel
theorem dL_law_828 : decode cL_law 828 = .ok (.iadd, 1) := by decide +kernel
theorem dL_law_829 : decode cL_law 829 = .ok (.iaload, 1) := by decide +kernel
theorem dL_law_830 : decode cL_law 830 = .ok (.invokevirtual 109, 3) := by decide +kernel
theorem dL_law_833 : decode cL_law 833 = .ok (.aload_n 2, 1) := by decide +kernel
theorem dL_law_834 : decode cL_law 834 = .ok (.aload_n 0, 1) := by decide +kernel
theorem dL_law_835 : decode cL_law 835 = .ok (.iload_n 3, 1) := by decide +kernel
theorem dL_law_836 : decode cL_law 836 = .ok (.iconst 1, 1) := by decide +kernel
theorem dL_law_837 : decode cL_law 837 = .ok (.iadd, 1) := by decide +kernel
theorem dL_law_838 : decode cL_law 838 = .ok (.iaload, 1) := by decide +kernel
theorem dL_law_839 : decode cL_law 839 = .ok (.aload_n 0, 1) := by decide +kernel
theorem dL_law_840 : decode cL_law 840 = .ok (.iload_n 3, 1) := by decide +kernel
theorem dL_law_841 : decode cL_law 841 = .ok (.iconst 2, 1) := by decide +kernel
theorem dL_law_842 : decode cL_law 842 = .ok (.iadd, 1) := by decide +kernel
theorem dL_law_843 : decode cL_law 843 = .ok (.iaload, 1) := by decide +kernel
theorem dL_law_844 : decode cL_law 844 = .ok (.aload_n 0, 1) := by decide +kernel
theorem dL_law_845 : decode cL_law 845 = .ok (.iload_n 3, 1) := by decide +kernel
theorem dL_law_846 : decode cL_law 846 = .ok (.iconst 3, 1) := by decide +kernel
theorem dL_law_847 : decode cL_law 847 = .ok (.iadd, 1) := by decide +kernel
theorem dL_law_848 : decode cL_law 848 = .ok (.iaload, 1) := by decide +kernel
theorem dL_law_849 : decode cL_law 849 = .ok (.invokevirtual 112, 3) := by decide +kernel
theorem dL_law_852 : decode cL_law 852 = .ok (.if_icmp .eq 81, 3) := by decide +kernel
theorem dL_law_855 : decode cL_law 855 = .ok (.iconst 0, 1) := by decide +kernel
theorem dL_law_856 : decode cL_law 856 = .ok (.ireturn, 1) := by decide +kernel
theorem dL_law_857 : decode cL_law 857 = .ok (.aload_n 1, 1) := by decide +kernel
theorem dL_law_858 : decode cL_law 858 = .ok (.aload_n 0, 1) := by decide +kernel
theorem dL_law_859 : decode cL_law 859 = .ok (.iload_n 3, 1) := by decide +kernel
theorem dL_law_860 : decode cL_law 860 = .ok (.iconst 1, 1) := by decide +kernel
theorem dL_law_861 : decode cL_law 861 = .ok (.iadd, 1) := by decide +kernel
theorem dL_law_862 : decode cL_law 862 = .ok (.iaload, 1) := by decide +kernel
theorem dL_law_863 : decode cL_law 863 = .ok (.invokevirtual 113, 3) := by decide +kernel
theorem dL_law_866 : decode cL_law 866 = .ok (.aload_n 2, 1) := by decide +kernel
theorem dL_law_867 : decode cL_law 867 = .ok (.aload_n 0, 1) := by decide +kernel
theorem dL_law_868 : decode cL_law 868 = .ok (.iload_n 3, 1) := by decide +kernel
theorem dL_law_869 : decode cL_law 869 = .ok (.iconst 1, 1) := by decide +kernel
theorem dL_law_870 : decode cL_law 870 = .ok (.iadd, 1) := by decide +kernel
theorem dL_law_871 : decode cL_law 871 = .ok (.iaload, 1) := by decide +kernel
theorem dL_law_872 : decode cL_law 872 = .ok (.invokevirtual 116, 3) := by decide +kernel
theorem dL_law_875 : decode cL_law 875 = .ok (.if_icmp .eq 58, 3) := by decide +kernel
theorem dL_law_878 : decode cL_law 878 = .ok (.iconst 0, 1) := by decide +kernel
theorem dL_law_879 : decode cL_law 879 = .ok (.ireturn, 1) := by decide +kernel
theorem dL_law_880 : decode cL_law 880 = .ok (.aload_n 1, 1) := by decide +kernel
theorem dL_law_881 : decode cL_law 881 = .ok (.aload_n 0, 1) := by decide +kernel
theorem dL_law_882 : decode cL_law 882 = .ok (.iload_n 3, 1) := by decide +kernel
theorem dL_law_883 : decode cL_law 883 = .ok (.iconst 1, 1) := by decide +kernel
theorem dL_law_884 : decode cL_law 884 = .ok (.iadd, 1) := by decide +kernel
theorem dL_law_885 : decode cL_law 885 = .ok (.iaload, 1) := by decide +kernel
theorem dL_law_886 : decode cL_law 886 = .ok (.aload_n 0, 1) := by decide +kernel
theorem dL_law_887 : decode cL_law 887 = .ok (.iload_n 3, 1) := by decide +kernel
theorem dL_law_888 : decode cL_law 888 = .ok (.iconst 2, 1) := by decide +kernel
theorem dL_law_889 : decode cL_law 889 = .ok (.iadd, 1) := by decide +kernel
theorem dL_law_890 : decode cL_law 890 = .ok (.iaload, 1) := by decide +kernel
theorem dL_law_891 : decode cL_law 891 = .ok (.aload_n 0, 1) := by decide +kernel
theorem dL_law_892 : decode cL_law 892 = .ok (.iload_n 3, 1) := by decide +kernel
theorem dL_law_893 : decode cL_law 893 = .ok (.iconst 3, 1) := by decide +kernel
theorem dL_law_894 : decode cL_law 894 = .ok (.iadd, 1) := by decide +kernel
theorem dL_law_895 : decode cL_law 895 = .ok (.iaload, 1) := by decide +kernel
theorem dL_law_896 : decode cL_law 896 = .ok (.aload_n 0, 1) := by decide +kernel
theorem dL_law_897 : decode cL_law 897 = .ok (.iload_n 3, 1) := by decide +kernel
theorem dL_law_898 : decode cL_law 898 = .ok (.iconst 4, 1) := by decide +kernel
theorem dL_law_899 : decode cL_law 899 = .ok (.iadd, 1) := by decide +kernel
theorem dL_law_900 : decode cL_law 900 = .ok (.iaload, 1) := by decide +kernel
theorem dL_law_901 : decode cL_law 901 = .ok (.invokevirtual 117, 3) := by decide +kernel
theorem dL_law_904 : decode cL_law 904 = .ok (.aload_n 2, 1) := by decide +kernel
theorem dL_law_905 : decode cL_law 905 = .ok (.aload_n 0, 1) := by decide +kernel
theorem dL_law_906 : decode cL_law 906 = .ok (.iload_n 3, 1) := by decide +kernel
theorem dL_law_907 : decode cL_law 907 = .ok (.iconst 1, 1) := by decide +kernel
theorem dL_law_908 : decode cL_law 908 = .ok (.iadd, 1) := by decide +kernel
theorem dL_law_909 : decode cL_law 909 = .ok (.iaload, 1) := by decide +kernel
theorem dL_law_910 : decode cL_law 910 = .ok (.aload_n 0, 1) := by decide +kernel
theorem dL_law_911 : decode cL_law 911 = .ok (.iload_n 3, 1) := by decide +kernel
theorem dL_law_912 : decode cL_law 912 = .ok (.iconst 2, 1) := by decide +kernel
theorem dL_law_913 : decode cL_law 913 = .ok (.iadd, 1) := by decide +kernel
theorem dL_law_914 : decode cL_law 914 = .ok (.iaload, 1) := by decide +kernel
theorem dL_law_915 : decode cL_law 915 = .ok (.aload_n 0, 1) := by decide +kernel
theorem dL_law_916 : decode cL_law 916 = .ok (.iload_n 3, 1) := by decide +kernel
theorem dL_law_917 : decode cL_law 917 = .ok (.iconst 3, 1) := by decide +kernel
theorem dL_law_918 : decode cL_law 918 = .ok (.iadd, 1) := by decide +kernel
theorem dL_law_919 : decode cL_law 919 = .ok (.iaload, 1) := by decide +kernel
theorem dL_law_920 : decode cL_law 920 = .ok (.aload_n 0, 1) := by decide +kernel
theorem dL_law_921 : decode cL_law 921 = .ok (.iload_n 3, 1) := by decide +kernel
theorem dL_law_922 : decode cL_law 922 = .ok (.iconst 4, 1) := by decide +kernel
theorem dL_law_923 : decode cL_law 923 = .ok (.iadd, 1) := by decide +kernel
theorem dL_law_924 : decode cL_law 924 = .ok (.iaload, 1) := by decide +kernel
theorem dL_law_925 : decode cL_law 925 = .ok (.invokevirtual 121, 3) := by decide +kernel
theorem dL_law_928 : decode cL_law 928 = .ok (.if_icmp .eq 5, 3) := by decide +kernel
theorem dL_law_931 : decode cL_law 931 = .ok (.iconst 0, 1) := by decide +kernel
theorem dL_law_932 : decode cL_law 932 = .ok (.ireturn, 1) := by decide +kernel
theorem dL_law_933 : decode cL_law 933 = .ok (.iinc 3 6, 3) := by decide +kernel
theorem dL_law_936 : decode cL_law 936 = .ok (.goto (-918), 3) := by decide +kernel
theorem dL_law_939 : decode cL_law 939 = .ok (.iconst 1, 1) := by decide +kernel
theorem dL_law_940 : decode cL_law 940 = .ok (.ireturn, 1) := by decide +kernel
