theorem dX5_key_70 : decode cX5_key 70 = .ok (.ishl, 1) := by decide +kernel
theorem dX5_key_71 : decode cX5_key 71 = .ok (.ior, 1) := by decide +kernel
theorem dX5_key_72 : decode cX5_key 72 = .ok (.putfield 121, 3) := by decide +kernel
theorem dX5_key_75 : decode cX5_key 75 = .ok (.aload_n 0, 1) := by decide +kernel
theorem dX5_key_76 : decode cX5_key 76 = .ok (.getfield 19, 3) := by decide +kernel
theorem dX5_key_79 : decode cX5_key 79 = .ok (.dup, 1) := by decide +kernel
theorem dX5_key_80 : decode cX5_key 80 = .ok (.getfield 108, 3) := by decide +kernel
theorem dX5_key_83 : decode cX5_key 83 = .ok (.iconst 1, 1) := by decide +kernel
theorem dX5_key_84 : decode cX5_key 84 = .ok (.isub, 1) := by decide +kernel
theorem dX5_key_85 : decode cX5_key 85 = .ok (.putfield 108, 3) := by decide +kernel
theorem dX5_key_88 : decode cX5_key 88 = .ok (.aload_n 0, 1) := by decide +kernel
theorem dX5_key_89 : decode cX5_key 89 = .ok (.getfield 19, 3) := by decide +kernel
theorem dX5_key_92 : decode cX5_key 92 = .ok (.getfield 108, 3) := by decide +kernel
theorem dX5_key_95 : decode cX5_key 95 = .ok (.ireturn, 1) := by decide +kernel
theorem dX5_keyInVain_0 : decode cX5_keyInVain 0 = .ok (.aload_n 0, 1) := by decide +kernel
theorem dX5_keyInVain_1 : decode cX5_keyInVain 1 = .ok (.getfield 19, 3) := by decide +kernel
theorem dX5_keyInVain_4 : decode cX5_keyInVain 4 = .ok (.getfield 111, 3) := by decide +kernel
theorem dX5_keyInVain_7 : decode cX5_keyInVain 7 = .ok (.iconst 1, 1) := by decide +kernel
theorem dX5_keyInVain_8 : decode cX5_keyInVain 8 = .ok (.if_icmp .ne 6, 3) := by decide +kernel
theorem dX5_keyInVain_11 : decode cX5_keyInVain 11 = .ok (.bipush (-2), 2) := by decide +kernel
theorem dX5_keyInVain_13 : decode cX5_keyInVain 13 = .ok (.ireturn, 1) := by decide +kernel
theorem dX5_keyInVain_14 : decode cX5_keyInVain 14 = .ok (.aload_n 0, 1) := by decide +kernel
theorem dX5_keyInVain_15 : decode cX5_keyInVain 15 = .ok (.getfield 19, 3) := by decide +kernel
theorem dX5_keyInVain_18 : decode cX5_keyInVain 18 = .ok (.dup, 1) := by decide +kernel
theorem dX5_keyInVain_19 : decode cX5_keyInVain 19 = .ok (.getfield 108, 3) := by decide +kernel
theorem dX5_keyInVain_22 : decode cX5_keyInVain 22 = .ok (.iconst 1, 1) := by decide +kernel
theorem dX5_keyInVain_23 : decode cX5_keyInVain 23 = .ok (.isub, 1) := by decide +kernel
theorem dX5_keyInVain_24 : decode cX5_keyInVain 24 = .ok (.putfield 108, 3) := by decide +kernel
theorem dX5_keyInVain_27 : decode cX5_keyInVain 27 = .ok (.aload_n 0, 1) := by decide +kernel
theorem dX5_keyInVain_28 : decode cX5_keyInVain 28 = .ok (.getfield 19, 3) := by decide +kernel
theorem dX5_keyInVain_31 : decode cX5_keyInVain 31 = .ok (.dup, 1) := by decide +kernel
theorem dX5_keyInVain_32 : decode cX5_keyInVain 32 = .ok (.getfield 124, 3) := by decide +kernel
theorem dX5_keyInVain_35 : decode cX5_keyInVain 35 = .ok (.iconst 1, 1) := by decide +kernel
theorem dX5_keyInVain_36 : decode cX5_keyInVain 36 = .ok (.iadd, 1) := by decide +kernel
theorem dX5_keyInVain_37 : decode cX5_keyInVain 37 = .ok (.putfield 124, 3) := by decide +kernel
theorem dX5_keyInVain_40 : decode cX5_keyInVain 40 = .ok (.aload_n 0, 1) := by decide +kernel
theorem dX5_keyInVain_41 : decode cX5_keyInVain 41 = .ok (.getfield 19, 3) := by decide +kernel
theorem dX5_keyInVain_44 : decode cX5_keyInVain 44 = .ok (.getfield 108, 3) := by decide +kernel
theorem dX5_keyInVain_47 : decode cX5_keyInVain 47 = .ok (.ireturn, 1) := by decide +kernel
theorem dX5_ticks_0 : decode cX5_ticks 0 = .ok (.iload_n 1, 1) := by decide +kernel
theorem dX5_ticks_1 : decode cX5_ticks 1 = .ok (.iconst 1, 1) := by decide +kernel
theorem dX5_ticks_2 : decode cX5_ticks 2 = .ok (.sipush 2000, 3) := by decide +kernel
theorem dX5_ticks_5 : decode cX5_ticks 5 = .ok (.invokestatic 54, 3) := by decide +kernel
theorem dX5_ticks_8 : decode cX5_ticks 8 = .ok (.ifCond .ne 5, 3) := by decide +kernel
theorem dX5_ticks_11 : decode cX5_ticks 11 = .ok (.iconst (-1), 1) := by decide +kernel
theorem dX5_ticks_12 : decode cX5_ticks 12 = .ok (.ireturn, 1) := by decide +kernel
theorem dX5_ticks_13 : decode cX5_ticks 13 = .ok (.aload_n 0, 1) := by decide +kernel
theorem dX5_ticks_14 : decode cX5_ticks 14 = .ok (.getfield 12, 3) := by decide +kernel
theorem dX5_ticks_17 : decode cX5_ticks 17 = .ok (.getfield 127, 3) := by decide +kernel
theorem dX5_ticks_20 : decode cX5_ticks 20 = .ok (.ldc 130, 2) := by decide +kernel
theorem dX5_ticks_22 : decode cX5_ticks 22 = .ok (.iload_n 1, 1) := by decide +kernel
theorem dX5_ticks_23 : decode cX5_ticks 23 = .ok (.isub, 1) := by decide +kernel
theorem dX5_ticks_24 : decode cX5_ticks 24 = .ok (.if_icmp .le 6, 3) := by decide +kernel
theorem dX5_ticks_27 : decode cX5_ticks 27 = .ok (.bipush (-3), 2) := by decide +kernel
theorem dX5_ticks_29 : decode cX5_ticks 29 = .ok (.ireturn, 1) := by decide +kernel
theorem dX5_ticks_30 : decode cX5_ticks 30 = .ok (.aload_n 0, 1) := by decide +kernel
theorem dX5_ticks_31 : decode cX5_ticks 31 = .ok (.getfield 36, 3) := by decide +kernel
theorem dX5_ticks_34 : decode cX5_ticks 34 = .ok (.invokevirtual 74, 3) := by decide +kernel
theorem dX5_ticks_37 : decode cX5_ticks 37 = .ok (.iload_n 1, 1) := by decide +kernel
theorem dX5_ticks_38 : decode cX5_ticks 38 = .ok (.istore_n 2, 1) := by decide +kernel
theorem dX5_ticks_39 : decode cX5_ticks 39 = .ok (.iconst 0, 1) := by decide +kernel
theorem dX5_ticks_40 : decode cX5_ticks 40 = .ok (.istore_n 3, 1) := by decide +kernel
theorem dX5_ticks_41 : decode cX5_ticks 41 = .ok (.iload_n 3, 1) := by decide +kernel
theorem dX5_ticks_42 : decode cX5_ticks 42 = .ok (.iload_n 1, 1) := by decide +kernel
theorem dX5_ticks_43 : decode cX5_ticks 43 = .ok (.if_icmp .ge 24, 3) := by decide +kernel
theorem dX5_ticks_46 : decode cX5_ticks 46 = .ok (.iload_n 2, 1) := by decide +kernel
theorem dX5_ticks_47 : decode cX5_ticks 47 = .ok (.ifCond .le 20, 3) := by decide +kernel
theorem dX5_ticks_50 : decode cX5_ticks 50 = .ok (.iload_n 2, 1) := by decide +kernel
theorem dX5_ticks_51 : decode cX5_ticks 51 = .ok (.aload_n 0, 1) := by decide +kernel
theorem dX5_ticks_52 : decode cX5_ticks 52 = .ok (.getfield 12, 3) := by decide +kernel
theorem dX5_ticks_55 : decode cX5_ticks 55 = .ok (.iload_n 2, 1) := by decide +kernel
theorem dX5_ticks_56 : decode cX5_ticks 56 = .ok (.invokevirtual 131, 3) := by decide +kernel
theorem dX5_ticks_59 : decode cX5_ticks 59 = .ok (.isub, 1) := by decide +kernel
theorem dX5_ticks_60 : decode cX5_ticks 60 = .ok (.istore_n 2, 1) := by decide +kernel
theorem dX5_ticks_61 : decode cX5_ticks 61 = .ok (.iinc 3 1, 3) := by decide +kernel
theorem dX5_ticks_64 : decode cX5_ticks 64 = .ok (.goto (-23), 3) := by decide +kernel
theorem dX5_ticks_67 : decode cX5_ticks 67 = .ok (.aload_n 0, 1) := by decide +kernel
theorem dX5_ticks_68 : decode cX5_ticks 68 = .ok (.getfield 12, 3) := by decide +kernel
theorem dX5_ticks_71 : decode cX5_ticks 71 = .ok (.getfield 127, 3) := by decide +kernel
theorem dX5_ticks_74 : decode cX5_ticks 74 = .ok (.ireturn, 1) := by decide +kernel
theorem dX5_carriage_0 : decode cX5_carriage 0 = .ok (.iload_n 1, 1) := by decide +kernel
theorem dX5_carriage_1 : decode cX5_carriage 1 = .ok (.tableswitch 71 0 3 #[31, 39, 55, 63], 31) := by decide +kernel
theorem dX5_carriage_32 : decode cX5_carriage 32 = .ok (.aload_n 0, 1) := by decide +kernel
theorem dX5_carriage_33 : decode cX5_carriage 33 = .ok (.getfield 12, 3) := by decide +kernel
theorem dX5_carriage_36 : decode cX5_carriage 36 = .ok (.getfield 134, 3) := by decide +kernel
theorem dX5_carriage_39 : decode cX5_carriage 39 = .ok (.ireturn, 1) := by decide +kernel
theorem dX5_carriage_40 : decode cX5_carriage 40 = .ok (.aload_n 0, 1) := by decide +kernel
theorem dX5_carriage_41 : decode cX5_carriage 41 = .ok (.getfield 12, 3) := by decide +kernel
theorem dX5_carriage_44 : decode cX5_carriage 44 = .ok (.getfield 137, 3) := by decide +kernel
theorem dX5_carriage_47 : decode cX5_carriage 47 = .ok (.ifCond .eq 7, 3) := by decide +kernel
theorem dX5_carriage_50 : decode cX5_carriage 50 = .ok (.iconst 1, 1) := by decide +kernel
theorem dX5_carriage_51 : decode cX5_carriage 51 = .ok (.goto 4, 3) := by decide +kernel
theorem dX5_carriage_54 : decode cX5_carriage 54 = .ok (.iconst 0, 1) := by decide +kernel
theorem dX5_carriage_55 : decode cX5_carriage 55 = .ok (.ireturn, 1) := by decide +kernel
theorem dX5_carriage_56 : decode cX5_carriage 56 = .ok (.aload_n 0, 1) := by decide +kernel
theorem dX5_carriage_57 : decode cX5_carriage 57 = .ok (.getfield 12, 3) := by decide +kernel
theorem dX5_carriage_60 : decode cX5_carriage 60 = .ok (.getfield 140, 3) := by decide +kernel
theorem dX5_carriage_63 : decode cX5_carriage 63 = .ok (.ireturn, 1) := by decide +kernel
theorem dX5_carriage_64 : decode cX5_carriage 64 = .ok (.aload_n 0, 1) := by decide +kernel
theorem dX5_carriage_65 : decode cX5_carriage 65 = .ok (.getfield 12, 3) := by decide +kernel
theorem dX5_carriage_68 : decode cX5_carriage 68 = .ok (.getfield 143, 3) := by decide +kernel
theorem dX5_carriage_71 : decode cX5_carriage 71 = .ok (.ireturn, 1) := by decide +kernel
theorem dX5_carriage_72 : decode cX5_carriage 72 = .ok (.iconst (-1), 1) := by decide +kernel
theorem dX5_carriage_73 : decode cX5_carriage 73 = .ok (.ireturn, 1) := by decide +kernel
theorem dX5_count_0 : decode cX5_count 0 = .ok (.iload_n 1, 1) := by decide +kernel
theorem dX5_count_1 : decode cX5_count 1 = .ok (.tableswitch 126 0 8 #[51, 59, 70, 78, 86, 94, 102, 110, 118], 51) := by decide +kernel
theorem dX5_count_52 : decode cX5_count 52 = .ok (.aload_n 0, 1) := by decide +kernel
theorem dX5_count_53 : decode cX5_count 53 = .ok (.getfield 12, 3) := by decide +kernel
theorem dX5_count_56 : decode cX5_count 56 = .ok (.getfield 58, 3) := by decide +kernel
theorem dX5_count_59 : decode cX5_count 59 = .ok (.ireturn, 1) := by decide +kernel
theorem dX5_count_60 : decode cX5_count 60 = .ok (.aload_n 0, 1) := by decide +kernel
theorem dX5_count_61 : decode cX5_count 61 = .ok (.getfield 12, 3) := by decide +kernel
theorem dX5_count_64 : decode cX5_count 64 = .ok (.getfield 121, 3) := by decide +kernel
theorem dX5_count_67 : decode cX5_count 67 = .ok (.invokestatic 146, 3) := by decide +kernel
theorem dX5_count_70 : decode cX5_count 70 = .ok (.ireturn, 1) := by decide +kernel
theorem dX5_count_71 : decode cX5_count 71 = .ok (.aload_n 0, 1) := by decide +kernel
theorem dX5_count_72 : decode cX5_count 72 = .ok (.getfield 19, 3) := by decide +kernel
theorem dX5_count_75 : decode cX5_count 75 = .ok (.getfield 108, 3) := by decide +kernel
theorem dX5_count_78 : decode cX5_count 78 = .ok (.ireturn, 1) := by decide +kernel
theorem dX5_count_79 : decode cX5_count 79 = .ok (.aload_n 0, 1) := by decide +kernel
theorem dX5_count_80 : decode cX5_count 80 = .ok (.getfield 19, 3) := by decide +kernel
theorem dX5_count_83 : decode cX5_count 83 = .ok (.getfield 124, 3) := by decide +kernel
theorem dX5_count_86 : decode cX5_count 86 = .ok (.ireturn, 1) := by decide +kernel
theorem dX5_count_87 : decode cX5_count 87 = .ok (.aload_n 0, 1) := by decide +kernel
theorem dX5_count_88 : decode cX5_count 88 = .ok (.getfield 19, 3) := by decide +kernel
theorem dX5_count_91 : decode cX5_count 91 = .ok (.getfield 151, 3) := by decide +kernel
theorem dX5_count_94 : decode cX5_count 94 = .ok (.ireturn, 1) := by decide +kernel
theorem dX5_count_95 : decode cX5_count 95 = .ok (.aload_n 0, 1) := by decide +kernel
theorem dX5_count_96 : decode cX5_count 96 = .ok (.getfield 12, 3) := by decide +kernel
theorem dX5_count_99 : decode cX5_count 99 = .ok (.getfield 154, 3) := by decide +kernel
theorem dX5_count_102 : decode cX5_count 102 = .ok (.ireturn, 1) := by decide +kernel
theorem dX5_count_103 : decode cX5_count 103 = .ok (.aload_n 0, 1) := by decide +kernel
theorem dX5_count_104 : decode cX5_count 104 = .ok (.getfield 12, 3) := by decide +kernel
theorem dX5_count_107 : decode cX5_count 107 = .ok (.getfield 157, 3) := by decide +kernel
theorem dX5_count_110 : decode cX5_count 110 = .ok (.ireturn, 1) := by decide +kernel
theorem dX5_count_111 : decode cX5_count 111 = .ok (.aload_n 0, 1) := by decide +kernel
theorem dX5_count_112 : decode cX5_count 112 = .ok (.getfield 12, 3) := by decide +kernel
theorem dX5_count_115 : decode cX5_count 115 = .ok (.getfield 127, 3) := by decide +kernel
theorem dX5_count_118 : decode cX5_count 118 = .ok (.ireturn, 1) := by decide +kernel
theorem dX5_count_119 : decode cX5_count 119 = .ok (.aload_n 0, 1) := by decide +kernel
theorem dX5_count_120 : decode cX5_count 120 = .ok (.getfield 12, 3) := by decide +kernel
theorem dX5_count_123 : decode cX5_count 123 = .ok (.invokevirtual 160, 3) := by decide +kernel
theorem dX5_count_126 : decode cX5_count 126 = .ok (.ireturn, 1) := by decide +kernel
theorem dX5_count_127 : decode cX5_count 127 = .ok (.iconst (-1), 1) := by decide +kernel
theorem dX5_count_128 : decode cX5_count 128 = .ok (.ireturn, 1) := by decide +kernel
theorem dX5_next_0 : decode cX5_next 0 = .ok (.iload_n 1, 1) := by decide +kernel
theorem dX5_next_1 : decode cX5_next 1 = .ok (.iconst 0, 1) := by decide +kernel
theorem dX5_next_2 : decode cX5_next 2 = .ok (.bipush 63, 2) := by decide +kernel
theorem dX5_next_4 : decode cX5_next 4 = .ok (.invokestatic 54, 3) := by decide +kernel
theorem dX5_next_7 : decode cX5_next 7 = .ok (.ifCond .ne 5, 3) := by decide +kernel
theorem dX5_next_10 : decode cX5_next 10 = .ok (.iconst (-1), 1) := by decide +kernel
theorem dX5_next_11 : decode cX5_next 11 = .ok (.ireturn, 1) := by decide +kernel
theorem dX5_next_12 : decode cX5_next 12 = .ok (.aload_n 0, 1) := by decide +kernel
theorem dX5_next_13 : decode cX5_next 13 = .ok (.getfield 36, 3) := by decide +kernel
theorem dX5_next_16 : decode cX5_next 16 = .ok (.aload_n 0, 1) := by decide +kernel
theorem dX5_next_17 : decode cX5_next 17 = .ok (.getfield 12, 3) := by decide +kernel
theorem dX5_next_20 : decode cX5_next 20 = .ok (.invokevirtual 163, 3) := by decide +kernel
theorem dX5_next_23 : decode cX5_next 23 = .ok (.iload_n 1, 1) := by decide +kernel
theorem dX5_next_24 : decode cX5_next 24 = .ok (.aload_n 0, 1) := by decide +kernel
theorem dX5_next_25 : decode cX5_next 25 = .ok (.getfield 36, 3) := by decide +kernel
theorem dX5_next_28 : decode cX5_next 28 = .ok (.getfield 167, 3) := by decide +kernel
theorem dX5_next_31 : decode cX5_next 31 = .ok (.if_icmp .ge 15, 3) := by decide +kernel
theorem dX5_next_34 : decode cX5_next 34 = .ok (.aload_n 0, 1) := by decide +kernel
theorem dX5_next_35 : decode cX5_next 35 = .ok (.getfield 36, 3) := by decide +kernel
theorem dX5_next_38 : decode cX5_next 38 = .ok (.getfield 170, 3) := by decide +kernel
theorem dX5_next_41 : decode cX5_next 41 = .ok (.iload_n 1, 1) := by decide +kernel
theorem dX5_next_42 : decode cX5_next 42 = .ok (.iaload, 1) := by decide +kernel
theorem dX5_next_43 : decode cX5_next 43 = .ok (.goto 5, 3) := by decide +kernel
theorem dX5_next_46 : decode cX5_next 46 = .ok (.bipush (-4), 2) := by decide +kernel
theorem dX5_next_48 : decode cX5_next 48 = .ok (.ireturn, 1) := by decide +kernel
theorem dX5_when_0 : decode cX5_when 0 = .ok (.iload_n 1, 1) := by decide +kernel
theorem dX5_when_1 : decode cX5_when 1 = .ok (.iconst 0, 1) := by decide +kernel
theorem dX5_when_2 : decode cX5_when 2 = .ok (.bipush 19, 2) := by decide +kernel
theorem dX5_when_4 : decode cX5_when 4 = .ok (.invokestatic 54, 3) := by decide +kernel
theorem dX5_when_7 : decode cX5_when 7 = .ok (.ifCond .ne 5, 3) := by decide +kernel
theorem dX5_when_10 : decode cX5_when 10 = .ok (.iconst (-1), 1) := by decide +kernel
theorem dX5_when_11 : decode cX5_when 11 = .ok (.ireturn, 1) := by decide +kernel
theorem dX5_when_12 : decode cX5_when 12 = .ok (.aload_n 0, 1) := by decide +kernel
theorem dX5_when_13 : decode cX5_when 13 = .ok (.getfield 36, 3) := by decide +kernel
theorem dX5_when_16 : decode cX5_when 16 = .ok (.aload_n 0, 1) := by decide +kernel
theorem dX5_when_17 : decode cX5_when 17 = .ok (.getfield 12, 3) := by decide +kernel
theorem dX5_when_20 : decode cX5_when 20 = .ok (.invokevirtual 163, 3) := by decide +kernel
theorem dX5_when_23 : decode cX5_when 23 = .ok (.aload_n 0, 1) := by decide +kernel
theorem dX5_when_24 : decode cX5_when 24 = .ok (.getfield 36, 3) := by decide +kernel
theorem dX5_when_27 : decode cX5_when 27 = .ok (.iload_n 1, 1) := by decide +kernel
theorem dX5_when_28 : decode cX5_when 28 = .ok (.invokevirtual 173, 3) := by decide +kernel
theorem dX5_when_31 : decode cX5_when 31 = .ok (.ireturn, 1) := by decide +kernel
theorem dX5_done_0 : decode cX5_done 0 = .ok (.aload_n 0, 1) := by decide +kernel
theorem dX5_done_1 : decode cX5_done 1 = .ok (.getfield 12, 3) := by decide +kernel
theorem dX5_done_4 : decode cX5_done 4 = .ok (.getfield 176, 3) := by decide +kernel
theorem dX5_done_7 : decode cX5_done 7 = .ok (.ifCond .eq 6, 3) := by decide +kernel
theorem dX5_done_10 : decode cX5_done 10 = .ok (.bipush (-2), 2) := by decide +kernel
theorem dX5_done_12 : decode cX5_done 12 = .ok (.ireturn, 1) := by decide +kernel
theorem dX5_done_13 : decode cX5_done 13 = .ok (.aload_n 0, 1) := by decide +kernel
theorem dX5_done_14 : decode cX5_done 14 = .ok (.getfield 36, 3) := by decide +kernel
theorem dX5_done_17 : decode cX5_done 17 = .ok (.aload_n 0, 1) := by decide +kernel
theorem dX5_done_18 : decode cX5_done 18 = .ok (.getfield 12, 3) := by decide +kernel
theorem dX5_done_21 : decode cX5_done 21 = .ok (.iconst 0, 1) := by decide +kernel
theorem dX5_done_22 : decode cX5_done 22 = .ok (.iconst 0, 1) := by decide +kernel
theorem dX5_done_23 : decode cX5_done 23 = .ok (.invokevirtual 179, 3) := by decide +kernel
theorem dX5_done_26 : decode cX5_done 26 = .ok (.ireturn, 1) := by decide +kernel
theorem dX5_better_0 : decode cX5_better 0 = .ok (.iload_n 1, 1) := by decide +kernel
theorem dX5_better_1 : decode cX5_better 1 = .ok (.iconst 0, 1) := by decide +kernel
theorem dX5_better_2 : decode cX5_better 2 = .ok (.iconst 2, 1) := by decide +kernel
theorem dX5_better_3 : decode cX5_better 3 = .ok (.invokestatic 54, 3) := by decide +kernel
theorem dX5_better_6 : decode cX5_better 6 = .ok (.ifCond .ne 5, 3) := by decide +kernel
theorem dX5_better_9 : decode cX5_better 9 = .ok (.iconst (-1), 1) := by decide +kernel
theorem dX5_better_10 : decode cX5_better 10 = .ok (.ireturn, 1) := by decide +kernel
theorem dX5_better_11 : decode cX5_better 11 = .ok (.aload_n 0, 1) := by decide +kernel
theorem dX5_better_12 : decode cX5_better 12 = .ok (.getfield 12, 3) := by decide +kernel
theorem dX5_better_15 : decode cX5_better 15 = .ok (.getfield 176, 3) := by decide +kernel
theorem dX5_better_18 : decode cX5_better 18 = .ok (.ifCond .eq 6, 3) := by decide +kernel
theorem dX5_better_21 : decode cX5_better 21 = .ok (.bipush (-2), 2) := by decide +kernel
theorem dX5_better_23 : decode cX5_better 23 = .ok (.ireturn, 1) := by decide +kernel
theorem dX5_better_24 : decode cX5_better 24 = .ok (.aload_n 0, 1) := by decide +kernel
theorem dX5_better_25 : decode cX5_better 25 = .ok (.getfield 36, 3) := by decide +kernel
theorem dX5_better_28 : decode cX5_better 28 = .ok (.aload_n 0, 1) := by decide +kernel
theorem dX5_better_29 : decode cX5_better 29 = .ok (.getfield 12, 3) := by decide +kernel
theorem dX5_better_32 : decode cX5_better 32 = .ok (.invokevirtual 183, 3) := by decide +kernel
theorem dX5_better_35 : decode cX5_better 35 = .ok (.iload_n 1, 1) := by decide +kernel
theorem dX5_better_36 : decode cX5_better 36 = .ok (.ifCond .ne 11, 3) := by decide +kernel
theorem dX5_better_39 : decode cX5_better 39 = .ok (.aload_n 0, 1) := by decide +kernel
theorem dX5_better_40 : decode cX5_better 40 = .ok (.getfield 36, 3) := by decide +kernel
theorem dX5_better_43 : decode cX5_better 43 = .ok (.getfield 186, 3) := by decide +kernel
theorem dX5_better_46 : decode cX5_better 46 = .ok (.ireturn, 1) := by decide +kernel
theorem dX5_better_47 : decode cX5_better 47 = .ok (.iload_n 1, 1) := by decide +kernel
theorem dX5_better_48 : decode cX5_better 48 = .ok (.iconst 1, 1) := by decide +kernel
theorem dX5_better_49 : decode cX5_better 49 = .ok (.if_icmp .ne 13, 3) := by decide +kernel
theorem dX5_better_52 : decode cX5_better 52 = .ok (.aload_n 0, 1) := by decide +kernel
theorem dX5_better_53 : decode cX5_better 53 = .ok (.getfield 36, 3) := by decide +kernel
theorem dX5_better_56 : decode cX5_better 56 = .ok (.getfield 189, 3) := by decide +kernel
theorem dX5_better_59 : decode cX5_better 59 = .ok (.goto 10, 3) := by decide +kernel
theorem dX5_better_62 : decode cX5_better 62 = .ok (.aload_n 0, 1) := by decide +kernel
theorem dX5_better_63 : decode cX5_better 63 = .ok (.getfield 36, 3) := by decide +kernel
theorem dX5_better_66 : decode cX5_better 66 = .ok (.getfield 192, 3) := by decide +kernel
theorem dX5_better_69 : decode cX5_better 69 = .ok (.ireturn, 1) := by decide +kernel
theorem dX5_heard_0 : decode cX5_heard 0 = .ok (.aload_n 0, 1) := by decide +kernel
theorem dX5_heard_1 : decode cX5_heard 1 = .ok (.iload_n 1, 1) := by decide +kernel
theorem dX5_heard_2 : decode cX5_heard 2 = .ok (.iload_n 2, 1) := by decide +kernel
theorem dX5_heard_3 : decode cX5_heard 3 = .ok (.iload_n 3, 1) := by decide +kernel
theorem dX5_heard_4 : decode cX5_heard 4 = .ok (.iload 4, 2) := by decide +kernel
theorem dX5_heard_6 : decode cX5_heard 6 = .ok (.iload 5, 2) := by decide +kernel
theorem dX5_heard_8 : decode cX5_heard 8 = .ok (.invokevirtual 195, 3) := by decide +kernel
theorem dX5_heard_11 : decode cX5_heard 11 = .ok (.istore 6, 2) := by decide +kernel
theorem dX5_heard_13 : decode cX5_heard 13 = .ok (.iload 6, 2) := by decide +kernel
theorem dX5_heard_15 : decode cX5_heard 15 = .ok (.ifCond .eq 6, 3) := by decide +kernel
theorem dX5_heard_18 : decode cX5_heard 18 = .ok (.iload 6, 2) := by decide +kernel
theorem dX5_heard_20 : decode cX5_heard 20 = .ok (.ireturn, 1) := by decide +kernel
theorem dX5_heard_21 : decode cX5_heard 21 = .ok (.aload_n 0, 1) := by decide +kernel
theorem dX5_heard_22 : decode cX5_heard 22 = .ok (.getfield 49, 3) := by decide +kernel
theorem dX5_heard_25 : decode cX5_heard 25 = .ok (.iload_n 1, 1) := by decide +kernel
theorem dX5_heard_26 : decode cX5_heard 26 = .ok (.aaload, 1) := by decide +kernel
theorem dX5_heard_27 : decode cX5_heard 27 = .ok (.iload_n 3, 1) := by decide +kernel
theorem dX5_heard_28 : decode cX5_heard 28 = .ok (.iload 4, 2) := by decide +kernel
theorem dX5_heard_30 : decode cX5_heard 30 = .ok (.iload 5, 2) := by decide +kernel
theorem dX5_heard_32 : decode cX5_heard 32 = .ok (.invokevirtual 199, 3) := by decide +kernel
theorem dX5_heard_35 : decode cX5_heard 35 = .ok (.istore 7, 2) := by decide +kernel
theorem dX5_heard_37 : decode cX5_heard 37 = .ok (.iload 7, 2) := by decide +kernel
theorem dX5_heard_39 : decode cX5_heard 39 = .ok (.bipush (-4), 2) := by decide +kernel
theorem dX5_heard_41 : decode cX5_heard 41 = .ok (.if_icmp .ne 8, 3) := by decide +kernel
theorem dX5_heard_44 : decode cX5_heard 44 = .ok (.bipush (-4), 2) := by decide +kernel
theorem dX5_heard_46 : decode cX5_heard 46 = .ok (.goto 15, 3) := by decide +kernel
theorem dX5_heard_49 : decode cX5_heard 49 = .ok (.iload 7, 2) := by decide +kernel
theorem dX5_heard_51 : decode cX5_heard 51 = .ok (.iconst 1, 1) := by decide +kernel
theorem dX5_heard_52 : decode cX5_heard 52 = .ok (.iadd, 1) := by decide +kernel
theorem dX5_heard_53 : decode cX5_heard 53 = .ok (.iload 4, 2) := by decide +kernel
theorem dX5_heard_55 : decode cX5_heard 55 = .ok (.iload 7, 2) := by decide +kernel
theorem dX5_heard_57 : decode cX5_heard 57 = .ok (.isub, 1) := by decide +kernel
theorem dX5_heard_58 : decode cX5_heard 58 = .ok (.invokestatic 203, 3) := by decide +kernel
theorem dX5_heard_61 : decode cX5_heard 61 = .ok (.ireturn, 1) := by decide +kernel
theorem dX5_mayBe_0 : decode cX5_mayBe 0 = .ok (.aload_n 0, 1) := by decide +kernel
theorem dX5_mayBe_1 : decode cX5_mayBe 1 = .ok (.iload_n 1, 1) := by decide +kernel
theorem dX5_mayBe_2 : decode cX5_mayBe 2 = .ok (.iload_n 2, 1) := by decide +kernel
theorem dX5_mayBe_3 : decode cX5_mayBe 3 = .ok (.iload_n 3, 1) := by decide +kernel
theorem dX5_mayBe_4 : decode cX5_mayBe 4 = .ok (.iload 4, 2) := by decide +kernel
theorem dX5_mayBe_6 : decode cX5_mayBe 6 = .ok (.iload 5, 2) := by decide +kernel
theorem dX5_mayBe_8 : decode cX5_mayBe 8 = .ok (.invokevirtual 195, 3) := by decide +kernel
theorem dX5_mayBe_11 : decode cX5_mayBe 11 = .ok (.istore 6, 2) := by decide +kernel
theorem dX5_mayBe_13 : decode cX5_mayBe 13 = .ok (.iload 6, 2) := by decide +kernel
theorem dX5_mayBe_15 : decode cX5_mayBe 15 = .ok (.ifCond .eq 6, 3) := by decide +kernel
theorem dX5_mayBe_18 : decode cX5_mayBe 18 = .ok (.iload 6, 2) := by decide +kernel
theorem dX5_mayBe_20 : decode cX5_mayBe 20 = .ok (.ireturn, 1) := by decide +kernel
theorem dX5_mayBe_21 : decode cX5_mayBe 21 = .ok (.aload_n 0, 1) := by decide +kernel
theorem dX5_mayBe_22 : decode cX5_mayBe 22 = .ok (.getfield 49, 3) := by decide +kernel
theorem dX5_mayBe_25 : decode cX5_mayBe 25 = .ok (.iload_n 1, 1) := by decide +kernel
theorem dX5_mayBe_26 : decode cX5_mayBe 26 = .ok (.aaload, 1) := by decide +kernel
theorem dX5_mayBe_27 : decode cX5_mayBe 27 = .ok (.iload_n 3, 1) := by decide +kernel
theorem dX5_mayBe_28 : decode cX5_mayBe 28 = .ok (.iload 4, 2) := by decide +kernel
theorem dX5_mayBe_30 : decode cX5_mayBe 30 = .ok (.iload 5, 2) := by decide +kernel
theorem dX5_mayBe_32 : decode cX5_mayBe 32 = .ok (.invokevirtual 199, 3) := by decide +kernel
theorem dX5_mayBe_35 : decode cX5_mayBe 35 = .ok (.istore 7, 2) := by decide +kernel
theorem dX5_mayBe_37 : decode cX5_mayBe 37 = .ok (.iload 7, 2) := by decide +kernel
theorem dX5_mayBe_39 : decode cX5_mayBe 39 = .ok (.bipush (-4), 2) := by decide +kernel
theorem dX5_mayBe_41 : decode cX5_mayBe 41 = .ok (.if_icmp .ne 6, 3) := by decide +kernel
theorem dX5_mayBe_44 : decode cX5_mayBe 44 = .ok (.bipush (-4), 2) := by decide +kernel
theorem dX5_mayBe_46 : decode cX5_mayBe 46 = .ok (.ireturn, 1) := by decide +kernel
theorem dX5_mayBe_47 : decode cX5_mayBe 47 = .ok (.iload 7, 2) := by decide +kernel
theorem dX5_mayBe_49 : decode cX5_mayBe 49 = .ok (.iconst 1, 1) := by decide +kernel
theorem dX5_mayBe_50 : decode cX5_mayBe 50 = .ok (.iadd, 1) := by decide +kernel
theorem dX5_mayBe_51 : decode cX5_mayBe 51 = .ok (.istore 8, 2) := by decide +kernel
theorem dX5_mayBe_53 : decode cX5_mayBe 53 = .ok (.iload 4, 2) := by decide +kernel
theorem dX5_mayBe_55 : decode cX5_mayBe 55 = .ok (.iload 7, 2) := by decide +kernel
theorem dX5_mayBe_57 : decode cX5_mayBe 57 = .ok (.isub, 1) := by decide +kernel
theorem dX5_mayBe_58 : decode cX5_mayBe 58 = .ok (.istore 9, 2) := by decide +kernel
theorem dX5_mayBe_60 : decode cX5_mayBe 60 = .ok (.iload 8, 2) := by decide +kernel
theorem dX5_mayBe_62 : decode cX5_mayBe 62 = .ok (.iload 9, 2) := by decide +kernel
theorem dX5_mayBe_64 : decode cX5_mayBe 64 = .ok (.invokestatic 206, 3) := by decide +kernel
theorem dX5_mayBe_67 : decode cX5_mayBe 67 = .ok (.iload 8, 2) := by decide +kernel
theorem dX5_mayBe_69 : decode cX5_mayBe 69 = .ok (.iconst 1, 1) := by decide +kernel
theorem dX5_mayBe_70 : decode cX5_mayBe 70 = .ok (.iadd, 1) := by decide +kernel
theorem dX5_mayBe_71 : decode cX5_mayBe 71 = .ok (.iload 9, 2) := by decide +kernel
theorem dX5_mayBe_73 : decode cX5_mayBe 73 = .ok (.invokestatic 206, 3) := by decide +kernel
theorem dX5_mayBe_76 : decode cX5_mayBe 76 = .ok (.ior, 1) := by decide +kernel
theorem dX5_mayBe_77 : decode cX5_mayBe 77 = .ok (.iload 8, 2) := by decide +kernel
theorem dX5_mayBe_79 : decode cX5_mayBe 79 = .ok (.iload 9, 2) := by decide +kernel
theorem dX5_mayBe_81 : decode cX5_mayBe 81 = .ok (.iconst 1, 1) := by decide +kernel
theorem dX5_mayBe_82 : decode cX5_mayBe 82 = .ok (.iadd, 1) := by decide +kernel
theorem dX5_mayBe_83 : decode cX5_mayBe 83 = .ok (.invokestatic 206, 3) := by decide +kernel
theorem dX5_mayBe_86 : decode cX5_mayBe 86 = .ok (.ior, 1) := by decide +kernel
theorem dX5_mayBe_87 : decode cX5_mayBe 87 = .ok (.istore 10, 2) := by decide +kernel
theorem dX5_mayBe_89 : decode cX5_mayBe 89 = .ok (.iload 10, 2) := by decide +kernel
theorem dX5_mayBe_91 : decode cX5_mayBe 91 = .ok (.ifCond .ne 8, 3) := by decide +kernel
theorem dX5_mayBe_94 : decode cX5_mayBe 94 = .ok (.bipush (-4), 2) := by decide +kernel
theorem dX5_mayBe_96 : decode cX5_mayBe 96 = .ok (.goto 5, 3) := by decide +kernel
theorem dX5_mayBe_99 : decode cX5_mayBe 99 = .ok (.iload 10, 2) := by decide +kernel
theorem dX5_mayBe_101 : decode cX5_mayBe 101 = .ok (.ireturn, 1) := by decide +kernel
theorem dX5_wireRefusal_0 : decode cX5_wireRefusal 0 = .ok (.iload_n 1, 1) := by decide +kernel
theorem dX5_wireRefusal_1 : decode cX5_wireRefusal 1 = .ok (.iload_n 2, 1) := by decide +kernel
theorem dX5_wireRefusal_2 : decode cX5_wireRefusal 2 = .ok (.invokestatic 209, 3) := by decide +kernel
theorem dX5_wireRefusal_5 : decode cX5_wireRefusal 5 = .ok (.ifCond .eq 26, 3) := by decide +kernel
theorem dX5_wireRefusal_8 : decode cX5_wireRefusal 8 = .ok (.iload 4, 2) := by decide +kernel
theorem dX5_wireRefusal_10 : decode cX5_wireRefusal 10 = .ok (.iconst 1, 1) := by decide +kernel
theorem dX5_wireRefusal_11 : decode cX5_wireRefusal 11 = .ok (.bipush 20, 2) := by decide +kernel
theorem dX5_wireRefusal_13 : decode cX5_wireRefusal 13 = .ok (.invokestatic 54, 3) := by decide +kernel
theorem dX5_wireRefusal_16 : decode cX5_wireRefusal 16 = .ok (.ifCond .eq 15, 3) := by decide +kernel
theorem dX5_wireRefusal_19 : decode cX5_wireRefusal 19 = .ok (.iload 5, 2) := by decide +kernel
theorem dX5_wireRefusal_21 : decode cX5_wireRefusal 21 = .ok (.iconst 1, 1) := by decide +kernel
theorem dX5_wireRefusal_22 : decode cX5_wireRefusal 22 = .ok (.sipush 999, 3) := by decide +kernel
theorem dX5_wireRefusal_25 : decode cX5_wireRefusal 25 = .ok (.invokestatic 54, 3) := by decide +kernel
theorem dX5_wireRefusal_28 : decode cX5_wireRefusal 28 = .ok (.ifCond .ne 5, 3) := by decide +kernel
theorem dX5_wireRefusal_31 : decode cX5_wireRefusal 31 = .ok (.iconst (-1), 1) := by decide +kernel
theorem dX5_wireRefusal_32 : decode cX5_wireRefusal 32 = .ok (.ireturn, 1) := by decide +kernel
theorem dX5_wireRefusal_33 : decode cX5_wireRefusal 33 = .ok (.aload_n 0, 1) := by decide +kernel
theorem dX5_wireRefusal_34 : decode cX5_wireRefusal 34 = .ok (.getfield 49, 3) := by decide +kernel
theorem dX5_wireRefusal_37 : decode cX5_wireRefusal 37 = .ok (.iload_n 1, 1) := by decide +kernel
theorem dX5_wireRefusal_38 : decode cX5_wireRefusal 38 = .ok (.aaload, 1) := by decide +kernel
theorem dX5_wireRefusal_39 : decode cX5_wireRefusal 39 = .ok (.iload_n 2, 1) := by decide +kernel
theorem dX5_wireRefusal_40 : decode cX5_wireRefusal 40 = .ok (.invokevirtual 213, 3) := by decide +kernel
theorem dX5_wireRefusal_43 : decode cX5_wireRefusal 43 = .ok (.istore 6, 2) := by decide +kernel
theorem dX5_wireRefusal_45 : decode cX5_wireRefusal 45 = .ok (.iload 6, 2) := by decide +kernel
theorem dX5_wireRefusal_47 : decode cX5_wireRefusal 47 = .ok (.ifCond .eq 6, 3) := by decide +kernel
theorem dX5_wireRefusal_50 : decode cX5_wireRefusal 50 = .ok (.iload 6, 2) := by decide +kernel
theorem dX5_wireRefusal_52 : decode cX5_wireRefusal 52 = .ok (.ireturn, 1) := by decide +kernel
theorem dX5_wireRefusal_53 : decode cX5_wireRefusal 53 = .ok (.iload_n 3, 1) := by decide +kernel
theorem dX5_wireRefusal_54 : decode cX5_wireRefusal 54 = .ok (.ifCond .lt 19, 3) := by decide +kernel
theorem dX5_wireRefusal_57 : decode cX5_wireRefusal 57 = .ok (.iload_n 3, 1) := by decide +kernel
theorem dX5_wireRefusal_58 : decode cX5_wireRefusal 58 = .ok (.aload_n 0, 1) := by decide +kernel
theorem dX5_wireRefusal_59 : decode cX5_wireRefusal 59 = .ok (.getfield 49, 3) := by decide +kernel
theorem dX5_wireRefusal_62 : decode cX5_wireRefusal 62 = .ok (.iload_n 1, 1) := by decide +kernel
theorem dX5_wireRefusal_63 : decode cX5_wireRefusal 63 = .ok (.aaload, 1) := by decide +kernel
theorem dX5_wireRefusal_64 : decode cX5_wireRefusal 64 = .ok (.getfield 216, 3) := by decide +kernel
theorem dX5_wireRefusal_67 : decode cX5_wireRefusal 67 = .ok (.iload 4, 2) := by decide +kernel
theorem dX5_wireRefusal_69 : decode cX5_wireRefusal 69 = .ok (.isub, 1) := by decide +kernel
theorem dX5_wireRefusal_70 : decode cX5_wireRefusal 70 = .ok (.if_icmp .le 6, 3) := by decide +kernel
theorem dX5_wireRefusal_73 : decode cX5_wireRefusal 73 = .ok (.bipush (-13), 2) := by decide +kernel
theorem dX5_wireRefusal_75 : decode cX5_wireRefusal 75 = .ok (.ireturn, 1) := by decide +kernel
theorem dX5_wireRefusal_76 : decode cX5_wireRefusal 76 = .ok (.aload_n 0, 1) := by decide +kernel
theorem dX5_wireRefusal_77 : decode cX5_wireRefusal 77 = .ok (.getfield 49, 3) := by decide +kernel
theorem dX5_wireRefusal_80 : decode cX5_wireRefusal 80 = .ok (.iload_n 1, 1) := by decide +kernel
theorem dX5_wireRefusal_81 : decode cX5_wireRefusal 81 = .ok (.aaload, 1) := by decide +kernel
theorem dX5_wireRefusal_82 : decode cX5_wireRefusal 82 = .ok (.iload_n 3, 1) := by decide +kernel
theorem dX5_wireRefusal_83 : decode cX5_wireRefusal 83 = .ok (.iload 4, 2) := by decide +kernel
theorem dX5_wireRefusal_85 : decode cX5_wireRefusal 85 = .ok (.invokevirtual 219, 3) := by decide +kernel
theorem dX5_wireRefusal_88 : decode cX5_wireRefusal 88 = .ok (.ifCond .eq 7, 3) := by decide +kernel
theorem dX5_wireRefusal_91 : decode cX5_wireRefusal 91 = .ok (.iconst 0, 1) := by decide +kernel
theorem dX5_wireRefusal_92 : decode cX5_wireRefusal 92 = .ok (.goto 5, 3) := by decide +kernel
theorem dX5_wireRefusal_95 : decode cX5_wireRefusal 95 = .ok (.bipush (-2), 2) := by decide +kernel
theorem dX5_wireRefusal_97 : decode cX5_wireRefusal 97 = .ok (.ireturn, 1) := by decide +kernel
theorem dX5_songOfPulses_0 : decode cX5_songOfPulses 0 = .ok (.iload_n 0, 1) := by decide +kernel
theorem dX5_songOfPulses_1 : decode cX5_songOfPulses 1 = .ok (.iconst 1, 1) := by decide +kernel
theorem dX5_songOfPulses_2 : decode cX5_songOfPulses 2 = .ok (.bipush 10, 2) := by decide +kernel
theorem dX5_songOfPulses_4 : decode cX5_songOfPulses 4 = .ok (.invokestatic 54, 3) := by decide +kernel
theorem dX5_songOfPulses_7 : decode cX5_songOfPulses 7 = .ok (.ifCond .eq 12, 3) := by decide +kernel
theorem dX5_songOfPulses_10 : decode cX5_songOfPulses 10 = .ok (.iload_n 1, 1) := by decide +kernel
theorem dX5_songOfPulses_11 : decode cX5_songOfPulses 11 = .ok (.iconst 1, 1) := by decide +kernel
theorem dX5_songOfPulses_12 : decode cX5_songOfPulses 12 = .ok (.iconst 2, 1) := by decide +kernel
theorem dX5_songOfPulses_13 : decode cX5_songOfPulses 13 = .ok (.invokestatic 54, 3) := by decide +kernel
theorem dX5_songOfPulses_16 : decode cX5_songOfPulses 16 = .ok (.ifCond .ne 6, 3) := by decide +kernel
theorem dX5_songOfPulses_19 : decode cX5_songOfPulses 19 = .ok (.bipush (-4), 2) := by decide +kernel
theorem dX5_songOfPulses_21 : decode cX5_songOfPulses 21 = .ok (.ireturn, 1) := by decide +kernel
theorem dX5_songOfPulses_22 : decode cX5_songOfPulses 22 = .ok (.iconst 2, 1) := by decide +kernel
theorem dX5_songOfPulses_23 : decode cX5_songOfPulses 23 = .ok (.iload_n 0, 1) := by decide +kernel
theorem dX5_songOfPulses_24 : decode cX5_songOfPulses 24 = .ok (.iconst 1, 1) := by decide +kernel
theorem dX5_songOfPulses_25 : decode cX5_songOfPulses 25 = .ok (.isub, 1) := by decide +kernel
theorem dX5_songOfPulses_26 : decode cX5_songOfPulses 26 = .ok (.imul, 1) := by decide +kernel
theorem dX5_songOfPulses_27 : decode cX5_songOfPulses 27 = .ok (.iload_n 1, 1) := by decide +kernel
theorem dX5_songOfPulses_28 : decode cX5_songOfPulses 28 = .ok (.iadd, 1) := by decide +kernel
theorem dX5_songOfPulses_29 : decode cX5_songOfPulses 29 = .ok (.iconst 1, 1) := by decide +kernel
theorem dX5_songOfPulses_30 : decode cX5_songOfPulses 30 = .ok (.isub, 1) := by decide +kernel
theorem dX5_songOfPulses_31 : decode cX5_songOfPulses 31 = .ok (.ireturn, 1) := by decide +kernel
theorem dX5_bitOfPulses_0 : decode cX5_bitOfPulses 0 = .ok (.iload_n 0, 1) := by decide +kernel
theorem dX5_bitOfPulses_1 : decode cX5_bitOfPulses 1 = .ok (.iload_n 1, 1) := by decide +kernel
theorem dX5_bitOfPulses_2 : decode cX5_bitOfPulses 2 = .ok (.invokestatic 203, 3) := by decide +kernel
theorem dX5_bitOfPulses_5 : decode cX5_bitOfPulses 5 = .ok (.istore_n 2, 1) := by decide +kernel
theorem dX5_bitOfPulses_6 : decode cX5_bitOfPulses 6 = .ok (.iload_n 2, 1) := by decide +kernel
theorem dX5_bitOfPulses_7 : decode cX5_bitOfPulses 7 = .ok (.bipush (-4), 2) := by decide +kernel
theorem dX5_bitOfPulses_9 : decode cX5_bitOfPulses 9 = .ok (.if_icmp .ne 7, 3) := by decide +kernel
theorem dX5_bitOfPulses_12 : decode cX5_bitOfPulses 12 = .ok (.iconst 0, 1) := by decide +kernel
theorem dX5_bitOfPulses_13 : decode cX5_bitOfPulses 13 = .ok (.goto 6, 3) := by decide +kernel
theorem dX5_bitOfPulses_16 : decode cX5_bitOfPulses 16 = .ok (.iconst 1, 1) := by decide +kernel
theorem dX5_bitOfPulses_17 : decode cX5_bitOfPulses 17 = .ok (.iload_n 2, 1) := by decide +kernel
theorem dX5_bitOfPulses_18 : decode cX5_bitOfPulses 18 = .ok (.ishl, 1) := by decide +kernel
theorem dX5_bitOfPulses_19 : decode cX5_bitOfPulses 19 = .ok (.ireturn, 1) := by decide +kernel
theorem dX5_type_0 : decode cX5_type 0 = .ok (.iload_n 3, 1) := by decide +kernel
theorem dX5_type_1 : decode cX5_type 1 = .ok (.iconst 1, 1) := by decide +kernel
theorem dX5_type_2 : decode cX5_type 2 = .ok (.bipush 8, 2) := by decide +kernel
theorem dX5_type_4 : decode cX5_type 4 = .ok (.invokestatic 54, 3) := by decide +kernel
theorem dX5_type_7 : decode cX5_type 7 = .ok (.ifCond .ne 5, 3) := by decide +kernel
theorem dX5_type_10 : decode cX5_type 10 = .ok (.iconst (-1), 1) := by decide +kernel
theorem dX5_type_11 : decode cX5_type 11 = .ok (.ireturn, 1) := by decide +kernel
theorem dX5_type_12 : decode cX5_type 12 = .ok (.iconst 0, 1) := by decide +kernel
theorem dX5_type_13 : decode cX5_type 13 = .ok (.istore 4, 2) := by decide +kernel
theorem dX5_type_15 : decode cX5_type 15 = .ok (.iload 4, 2) := by decide +kernel
theorem dX5_type_17 : decode cX5_type 17 = .ok (.iload_n 3, 1) := by decide +kernel
theorem dX5_type_18 : decode cX5_type 18 = .ok (.if_icmp .ge 27, 3) := by decide +kernel
theorem dX5_type_21 : decode cX5_type 21 = .ok (.lload_n 1, 1) := by decide +kernel
theorem dX5_type_22 : decode cX5_type 22 = .ok (.iload 4, 2) := by decide +kernel
theorem dX5_type_24 : decode cX5_type 24 = .ok (.invokestatic 222, 3) := by decide +kernel
theorem dX5_type_27 : decode cX5_type 27 = .ok (.bipush 32, 2) := by decide +kernel
theorem dX5_type_29 : decode cX5_type 29 = .ok (.bipush 126, 2) := by decide +kernel
theorem dX5_type_31 : decode cX5_type 31 = .ok (.invokestatic 54, 3) := by decide +kernel
theorem dX5_type_34 : decode cX5_type 34 = .ok (.ifCond .ne 5, 3) := by decide +kernel
theorem dX5_type_37 : decode cX5_type 37 = .ok (.iconst (-1), 1) := by decide +kernel
theorem dX5_type_38 : decode cX5_type 38 = .ok (.ireturn, 1) := by decide +kernel
theorem dX5_type_39 : decode cX5_type 39 = .ok (.iinc 4 1, 3) := by decide +kernel
theorem dX5_type_42 : decode cX5_type 42 = .ok (.goto (-27), 3) := by decide +kernel
theorem dX5_type_45 : decode cX5_type 45 = .ok (.aload_n 0, 1) := by decide +kernel
theorem dX5_type_46 : decode cX5_type 46 = .ok (.getfield 43, 3) := by decide +kernel
theorem dX5_type_49 : decode cX5_type 49 = .ok (.getfield 226, 3) := by decide +kernel
theorem dX5_type_52 : decode cX5_type 52 = .ok (.bipush 80, 2) := by decide +kernel
theorem dX5_type_54 : decode cX5_type 54 = .ok (.iload_n 3, 1) := by decide +kernel
theorem dX5_type_55 : decode cX5_type 55 = .ok (.isub, 1) := by decide +kernel
theorem dX5_type_56 : decode cX5_type 56 = .ok (.if_icmp .le 6, 3) := by decide +kernel
theorem dX5_type_59 : decode cX5_type 59 = .ok (.bipush (-3), 2) := by decide +kernel
theorem dX5_type_61 : decode cX5_type 61 = .ok (.ireturn, 1) := by decide +kernel
theorem dX5_type_62 : decode cX5_type 62 = .ok (.iload_n 3, 1) := by decide +kernel
theorem dX5_type_63 : decode cX5_type 63 = .ok (.iconst 1, 1) := by decide +kernel
theorem dX5_type_64 : decode cX5_type 64 = .ok (.isub, 1) := by decide +kernel
theorem dX5_type_65 : decode cX5_type 65 = .ok (.istore 4, 2) := by decide +kernel
theorem dX5_type_67 : decode cX5_type 67 = .ok (.iload 4, 2) := by decide +kernel
theorem dX5_type_69 : decode cX5_type 69 = .ok (.ifCond .lt 22, 3) := by decide +kernel
theorem dX5_type_72 : decode cX5_type 72 = .ok (.aload_n 0, 1) := by decide +kernel
theorem dX5_type_73 : decode cX5_type 73 = .ok (.getfield 43, 3) := by decide +kernel
theorem dX5_type_76 : decode cX5_type 76 = .ok (.lload_n 1, 1) := by decide +kernel
theorem dX5_type_77 : decode cX5_type 77 = .ok (.iload 4, 2) := by decide +kernel
theorem dX5_type_79 : decode cX5_type 79 = .ok (.invokestatic 222, 3) := by decide +kernel
theorem dX5_type_82 : decode cX5_type 82 = .ok (.invokevirtual 229, 3) := by decide +kernel
theorem dX5_type_85 : decode cX5_type 85 = .ok (.iinc 4 (-1), 3) := by decide +kernel
theorem dX5_type_88 : decode cX5_type 88 = .ok (.goto (-21), 3) := by decide +kernel
theorem dX5_type_91 : decode cX5_type 91 = .ok (.aload_n 0, 1) := by decide +kernel
theorem dX5_type_92 : decode cX5_type 92 = .ok (.getfield 43, 3) := by decide +kernel
theorem dX5_type_95 : decode cX5_type 95 = .ok (.getfield 226, 3) := by decide +kernel
theorem dX5_type_98 : decode cX5_type 98 = .ok (.ireturn, 1) := by decide +kernel
theorem dX5_byteOf_0 : decode cX5_byteOf 0 = .ok (.lload_n 0, 1) := by decide +kernel
theorem dX5_byteOf_1 : decode cX5_byteOf 1 = .ok (.bipush 8, 2) := by decide +kernel
theorem dX5_byteOf_3 : decode cX5_byteOf 3 = .ok (.iload_n 2, 1) := by decide +kernel
theorem dX5_byteOf_4 : decode cX5_byteOf 4 = .ok (.imul, 1) := by decide +kernel
theorem dX5_byteOf_5 : decode cX5_byteOf 5 = .ok (.lushr, 1) := by decide +kernel
theorem dX5_byteOf_6 : decode cX5_byteOf 6 = .ok (.l2i, 1) := by decide +kernel
theorem dX5_byteOf_7 : decode cX5_byteOf 7 = .ok (.sipush 255, 3) := by decide +kernel
theorem dX5_byteOf_10 : decode cX5_byteOf 10 = .ok (.iand, 1) := by decide +kernel
theorem dX5_byteOf_11 : decode cX5_byteOf 11 = .ok (.ireturn, 1) := by decide +kernel
theorem dX5_evening_0 : decode cX5_evening 0 = .ok (.aload_n 0, 1) := by decide +kernel
theorem dX5_evening_1 : decode cX5_evening 1 = .ok (.getfield 43, 3) := by decide +kernel
theorem dX5_evening_4 : decode cX5_evening 4 = .ok (.invokevirtual 232, 3) := by decide +kernel
theorem dX5_evening_7 : decode cX5_evening 7 = .ok (.istore_n 1, 1) := by decide +kernel
theorem dX5_evening_8 : decode cX5_evening 8 = .ok (.aload_n 0, 1) := by decide +kernel
theorem dX5_evening_9 : decode cX5_evening 9 = .ok (.getfield 43, 3) := by decide +kernel
theorem dX5_evening_12 : decode cX5_evening 12 = .ok (.iconst 0, 1) := by decide +kernel
theorem dX5_evening_13 : decode cX5_evening 13 = .ok (.putfield 226, 3) := by decide +kernel
theorem dX5_evening_16 : decode cX5_evening 16 = .ok (.iload_n 1, 1) := by decide +kernel
theorem dX5_evening_17 : decode cX5_evening 17 = .ok (.ifCond .eq 5, 3) := by decide +kernel
theorem dX5_evening_20 : decode cX5_evening 20 = .ok (.iload_n 1, 1) := by decide +kernel
theorem dX5_evening_21 : decode cX5_evening 21 = .ok (.ireturn, 1) := by decide +kernel
theorem dX5_evening_22 : decode cX5_evening 22 = .ok (.iconst 0, 1) := by decide +kernel
theorem dX5_evening_23 : decode cX5_evening 23 = .ok (.istore_n 2, 1) := by decide +kernel
theorem dX5_evening_24 : decode cX5_evening 24 = .ok (.iload_n 2, 1) := by decide +kernel
theorem dX5_evening_25 : decode cX5_evening 25 = .ok (.aload_n 0, 1) := by decide +kernel
theorem dX5_evening_26 : decode cX5_evening 26 = .ok (.getfield 43, 3) := by decide +kernel
theorem dX5_evening_29 : decode cX5_evening 29 = .ok (.getfield 235, 3) := by decide +kernel
theorem dX5_evening_32 : decode cX5_evening 32 = .ok (.if_icmp .ge 78, 3) := by decide +kernel
theorem dX5_evening_35 : decode cX5_evening 35 = .ok (.iload_n 2, 1) := by decide +kernel
theorem dX5_evening_36 : decode cX5_evening 36 = .ok (.bipush 40, 2) := by decide +kernel
theorem dX5_evening_38 : decode cX5_evening 38 = .ok (.if_icmp .ge 72, 3) := by decide +kernel
theorem dX5_evening_41 : decode cX5_evening 41 = .ok (.aload_n 0, 1) := by decide +kernel
theorem dX5_evening_42 : decode cX5_evening 42 = .ok (.getfield 43, 3) := by decide +kernel
theorem dX5_evening_45 : decode cX5_evening 45 = .ok (.getfield 238, 3) := by decide +kernel
theorem dX5_evening_48 : decode cX5_evening 48 = .ok (.iload_n 2, 1) := by decide +kernel
theorem dX5_evening_49 : decode cX5_evening 49 = .ok (.iaload, 1) := by decide +kernel
theorem dX5_evening_50 : decode cX5_evening 50 = .ok (.istore_n 3, 1) := by decide +kernel
theorem dX5_evening_51 : decode cX5_evening 51 = .ok (.aload_n 0, 1) := by decide +kernel
theorem dX5_evening_52 : decode cX5_evening 52 = .ok (.getfield 43, 3) := by decide +kernel
theorem dX5_evening_55 : decode cX5_evening 55 = .ok (.getfield 241, 3) := by decide +kernel
theorem dX5_evening_58 : decode cX5_evening 58 = .ok (.iload_n 2, 1) := by decide +kernel
theorem dX5_evening_59 : decode cX5_evening 59 = .ok (.iaload, 1) := by decide +kernel
theorem dX5_evening_60 : decode cX5_evening 60 = .ok (.istore 4, 2) := by decide +kernel
theorem dX5_evening_62 : decode cX5_evening 62 = .ok (.iload_n 3, 1) := by decide +kernel
theorem dX5_evening_63 : decode cX5_evening 63 = .ok (.ifCond .ne 12, 3) := by decide +kernel
theorem dX5_evening_66 : decode cX5_evening 66 = .ok (.aload_n 0, 1) := by decide +kernel
theorem dX5_evening_67 : decode cX5_evening 67 = .ok (.iload 4, 2) := by decide +kernel
theorem dX5_evening_69 : decode cX5_evening 69 = .ok (.invokevirtual 244, 3) := by decide +kernel
theorem dX5_evening_72 : decode cX5_evening 72 = .ok (.goto 23, 3) := by decide +kernel
theorem dX5_evening_75 : decode cX5_evening 75 = .ok (.iload_n 3, 1) := by decide +kernel
theorem dX5_evening_76 : decode cX5_evening 76 = .ok (.iconst 1, 1) := by decide +kernel
theorem dX5_evening_77 : decode cX5_evening 77 = .ok (.if_icmp .ne 12, 3) := by decide +kernel
theorem dX5_evening_80 : decode cX5_evening 80 = .ok (.aload_n 0, 1) := by decide +kernel
theorem dX5_evening_81 : decode cX5_evening 81 = .ok (.iload 4, 2) := by decide +kernel
theorem dX5_evening_83 : decode cX5_evening 83 = .ok (.invokevirtual 247, 3) := by decide +kernel
theorem dX5_evening_86 : decode cX5_evening 86 = .ok (.goto 9, 3) := by decide +kernel
theorem dX5_evening_89 : decode cX5_evening 89 = .ok (.aload_n 0, 1) := by decide +kernel
theorem dX5_evening_90 : decode cX5_evening 90 = .ok (.iload 4, 2) := by decide +kernel
theorem dX5_evening_92 : decode cX5_evening 92 = .ok (.invokevirtual 250, 3) := by decide +kernel
theorem dX5_evening_95 : decode cX5_evening 95 = .ok (.istore 5, 2) := by decide +kernel
theorem dX5_evening_97 : decode cX5_evening 97 = .ok (.iload 5, 2) := by decide +kernel
theorem dX5_evening_99 : decode cX5_evening 99 = .ok (.ifCond .ge 5, 3) := by decide +kernel
theorem dX5_evening_102 : decode cX5_evening 102 = .ok (.iload_n 2, 1) := by decide +kernel
theorem dX5_evening_103 : decode cX5_evening 103 = .ok (.ireturn, 1) := by decide +kernel
theorem dX5_evening_104 : decode cX5_evening 104 = .ok (.iinc 2 1, 3) := by decide +kernel
theorem dX5_evening_107 : decode cX5_evening 107 = .ok (.goto (-83), 3) := by decide +kernel
theorem dX5_evening_110 : decode cX5_evening 110 = .ok (.aload_n 0, 1) := by decide +kernel
theorem dX5_evening_111 : decode cX5_evening 111 = .ok (.getfield 43, 3) := by decide +kernel
theorem dX5_evening_114 : decode cX5_evening 114 = .ok (.getfield 235, 3) := by decide +kernel
theorem dX5_evening_117 : decode cX5_evening 117 = .ok (.ireturn, 1) := by decide +kernel
theorem dX5_image_0 : decode cX5_image 0 = .ok (.aload_n 0, 1) := by decide +kernel
theorem dX5_image_1 : decode cX5_image 1 = .ok (.getfield 23, 3) := by decide +kernel
theorem dX5_image_4 : decode cX5_image 4 = .ok (.aload_n 0, 1) := by decide +kernel
theorem dX5_image_5 : decode cX5_image 5 = .ok (.getfield 12, 3) := by decide +kernel
theorem dX5_image_8 : decode cX5_image 8 = .ok (.invokevirtual 253, 3) := by decide +kernel
theorem dX5_image_11 : decode cX5_image 11 = .ok (.aload_n 0, 1) := by decide +kernel
theorem dX5_image_12 : decode cX5_image 12 = .ok (.getfield 26, 3) := by decide +kernel
theorem dX5_image_15 : decode cX5_image 15 = .ok (.aload_n 0, 1) := by decide +kernel
theorem dX5_image_16 : decode cX5_image 16 = .ok (.getfield 19, 3) := by decide +kernel
theorem dX5_image_19 : decode cX5_image 19 = .ok (.invokevirtual 256, 3) := by decide +kernel
theorem dX5_image_22 : decode cX5_image 22 = .ok (.aload_n 0, 1) := by decide +kernel
theorem dX5_image_23 : decode cX5_image 23 = .ok (.iconst 1, 1) := by decide +kernel
theorem dX5_image_24 : decode cX5_image 24 = .ok (.putfield 29, 3) := by decide +kernel
theorem dX5_image_27 : decode cX5_image 27 = .ok (.iconst 1, 1) := by decide +kernel
theorem dX5_image_28 : decode cX5_image 28 = .ok (.ireturn, 1) := by decide +kernel
theorem dX5_restore_0 : decode cX5_restore 0 = .ok (.aload_n 0, 1) := by decide +kernel
theorem dX5_restore_1 : decode cX5_restore 1 = .ok (.getfield 29, 3) := by decide +kernel
theorem dX5_restore_4 : decode cX5_restore 4 = .ok (.ifCond .ne 6, 3) := by decide +kernel
theorem dX5_restore_7 : decode cX5_restore 7 = .ok (.bipush (-4), 2) := by decide +kernel
theorem dX5_restore_9 : decode cX5_restore 9 = .ok (.ireturn, 1) := by decide +kernel
theorem dX5_restore_10 : decode cX5_restore 10 = .ok (.aload_n 0, 1) := by decide +kernel
theorem dX5_restore_11 : decode cX5_restore 11 = .ok (.getfield 36, 3) := by decide +kernel
theorem dX5_restore_14 : decode cX5_restore 14 = .ok (.invokevirtual 74, 3) := by decide +kernel
theorem dX5_restore_17 : decode cX5_restore 17 = .ok (.aload_n 0, 1) := by decide +kernel
theorem dX5_restore_18 : decode cX5_restore 18 = .ok (.getfield 12, 3) := by decide +kernel
theorem dX5_restore_21 : decode cX5_restore 21 = .ok (.aload_n 0, 1) := by decide +kernel
theorem dX5_restore_22 : decode cX5_restore 22 = .ok (.getfield 23, 3) := by decide +kernel
theorem dX5_restore_25 : decode cX5_restore 25 = .ok (.invokevirtual 253, 3) := by decide +kernel
theorem dX5_restore_28 : decode cX5_restore 28 = .ok (.aload_n 0, 1) := by decide +kernel
theorem dX5_restore_29 : decode cX5_restore 29 = .ok (.getfield 19, 3) := by decide +kernel
theorem dX5_restore_32 : decode cX5_restore 32 = .ok (.aload_n 0, 1) := by decide +kernel
theorem dX5_restore_33 : decode cX5_restore 33 = .ok (.getfield 26, 3) := by decide +kernel
theorem dX5_restore_36 : decode cX5_restore 36 = .ok (.invokevirtual 256, 3) := by decide +kernel
theorem dX5_restore_39 : decode cX5_restore 39 = .ok (.iconst 1, 1) := by decide +kernel
theorem dX5_restore_40 : decode cX5_restore 40 = .ok (.ireturn, 1) := by decide +kernel
theorem dX5_sheet_0 : decode cX5_sheet 0 = .ok (.iload_n 1, 1) := by decide +kernel
theorem dX5_sheet_1 : decode cX5_sheet 1 = .ok (.iload_n 2, 1) := by decide +kernel
theorem dX5_sheet_2 : decode cX5_sheet 2 = .ok (.invokestatic 209, 3) := by decide +kernel
theorem dX5_sheet_5 : decode cX5_sheet 5 = .ok (.ifCond .eq 9, 3) := by decide +kernel
theorem dX5_sheet_8 : decode cX5_sheet 8 = .ok (.iload_n 3, 1) := by decide +kernel
theorem dX5_sheet_9 : decode cX5_sheet 9 = .ok (.bipush 24, 2) := by decide +kernel
theorem dX5_sheet_11 : decode cX5_sheet 11 = .ok (.if_icmp .le 5, 3) := by decide +kernel
theorem dX5_sheet_14 : decode cX5_sheet 14 = .ok (.iconst (-1), 1) := by decide +kernel
theorem dX5_sheet_15 : decode cX5_sheet 15 = .ok (.ireturn, 1) := by decide +kernel
theorem dX5_sheet_16 : decode cX5_sheet 16 = .ok (.iload_n 3, 1) := by decide +kernel
theorem dX5_sheet_17 : decode cX5_sheet 17 = .ok (.ifCond .ge 6, 3) := by decide +kernel
theorem dX5_sheet_20 : decode cX5_sheet 20 = .ok (.bipush (-14), 2) := by decide +kernel
theorem dX5_sheet_22 : decode cX5_sheet 22 = .ok (.ireturn, 1) := by decide +kernel
theorem dX5_sheet_23 : decode cX5_sheet 23 = .ok (.aload_n 0, 1) := by decide +kernel
theorem dX5_sheet_24 : decode cX5_sheet 24 = .ok (.getfield 49, 3) := by decide +kernel
theorem dX5_sheet_27 : decode cX5_sheet 27 = .ok (.iload_n 1, 1) := by decide +kernel
theorem dX5_sheet_28 : decode cX5_sheet 28 = .ok (.aaload, 1) := by decide +kernel
theorem dX5_sheet_29 : decode cX5_sheet 29 = .ok (.iload_n 2, 1) := by decide +kernel
theorem dX5_sheet_30 : decode cX5_sheet 30 = .ok (.iload_n 3, 1) := by decide +kernel
theorem dX5_sheet_31 : decode cX5_sheet 31 = .ok (.invokevirtual 259, 3) := by decide +kernel
theorem dX5_sheet_34 : decode cX5_sheet 34 = .ok (.iload_n 3, 1) := by decide +kernel
theorem dX5_sheet_35 : decode cX5_sheet 35 = .ok (.ireturn, 1) := by decide +kernel
theorem dX5_drop_0 : decode cX5_drop 0 = .ok (.iload_n 1, 1) := by decide +kernel
theorem dX5_drop_1 : decode cX5_drop 1 = .ok (.iconst 0, 1) := by decide +kernel
theorem dX5_drop_2 : decode cX5_drop 2 = .ok (.iconst 3, 1) := by decide +kernel
theorem dX5_drop_3 : decode cX5_drop 3 = .ok (.invokestatic 54, 3) := by decide +kernel
theorem dX5_drop_6 : decode cX5_drop 6 = .ok (.ifCond .ne 5, 3) := by decide +kernel
theorem dX5_drop_9 : decode cX5_drop 9 = .ok (.iconst (-1), 1) := by decide +kernel
theorem dX5_drop_10 : decode cX5_drop 10 = .ok (.ireturn, 1) := by decide +kernel
theorem dX5_drop_11 : decode cX5_drop 11 = .ok (.aload_n 0, 1) := by decide +kernel
theorem dX5_drop_12 : decode cX5_drop 12 = .ok (.getfield 49, 3) := by decide +kernel
theorem dX5_drop_15 : decode cX5_drop 15 = .ok (.iload_n 1, 1) := by decide +kernel
theorem dX5_drop_16 : decode cX5_drop 16 = .ok (.aaload, 1) := by decide +kernel
theorem dX5_drop_17 : decode cX5_drop 17 = .ok (.getfield 262, 3) := by decide +kernel
theorem dX5_drop_20 : decode cX5_drop 20 = .ok (.bipush (-4), 2) := by decide +kernel
theorem dX5_drop_22 : decode cX5_drop 22 = .ok (.if_icmp .ne 6, 3) := by decide +kernel
theorem dX5_drop_25 : decode cX5_drop 25 = .ok (.bipush (-11), 2) := by decide +kernel
theorem dX5_drop_27 : decode cX5_drop 27 = .ok (.ireturn, 1) := by decide +kernel
theorem dX5_drop_28 : decode cX5_drop 28 = .ok (.aload_n 0, 1) := by decide +kernel
theorem dX5_drop_29 : decode cX5_drop 29 = .ok (.getfield 49, 3) := by decide +kernel
theorem dX5_drop_32 : decode cX5_drop 32 = .ok (.iload_n 1, 1) := by decide +kernel
theorem dX5_drop_33 : decode cX5_drop 33 = .ok (.aaload, 1) := by decide +kernel
theorem dX5_drop_34 : decode cX5_drop 34 = .ok (.bipush (-4), 2) := by decide +kernel
theorem dX5_drop_36 : decode cX5_drop 36 = .ok (.putfield 262, 3) := by decide +kernel
theorem dX5_drop_39 : decode cX5_drop 39 = .ok (.aload_n 0, 1) := by decide +kernel
theorem dX5_drop_40 : decode cX5_drop 40 = .ok (.getfield 49, 3) := by decide +kernel
theorem dX5_drop_43 : decode cX5_drop 43 = .ok (.iload_n 1, 1) := by decide +kernel
theorem dX5_drop_44 : decode cX5_drop 44 = .ok (.aaload, 1) := by decide +kernel
theorem dX5_drop_45 : decode cX5_drop 45 = .ok (.getfield 216, 3) := by decide +kernel
theorem dX5_drop_48 : decode cX5_drop 48 = .ok (.ireturn, 1) := by decide +kernel
theorem dX5_item_0 : decode cX5_item 0 = .ok (.iload_n 1, 1) := by decide +kernel
theorem dX5_item_1 : decode cX5_item 1 = .ok (.iload_n 2, 1) := by decide +kernel
theorem dX5_item_2 : decode cX5_item 2 = .ok (.invokestatic 209, 3) := by decide +kernel
theorem dX5_item_5 : decode cX5_item 5 = .ok (.ifCond .ne 5, 3) := by decide +kernel
theorem dX5_item_8 : decode cX5_item 8 = .ok (.iconst (-1), 1) := by decide +kernel
theorem dX5_item_9 : decode cX5_item 9 = .ok (.ireturn, 1) := by decide +kernel
theorem dX5_item_10 : decode cX5_item 10 = .ok (.aload_n 0, 1) := by decide +kernel
theorem dX5_item_11 : decode cX5_item 11 = .ok (.getfield 49, 3) := by decide +kernel
theorem dX5_item_14 : decode cX5_item 14 = .ok (.iload_n 1, 1) := by decide +kernel
theorem dX5_item_15 : decode cX5_item 15 = .ok (.aaload, 1) := by decide +kernel
theorem dX5_item_16 : decode cX5_item 16 = .ok (.iload_n 2, 1) := by decide +kernel
theorem dX5_item_17 : decode cX5_item 17 = .ok (.invokevirtual 213, 3) := by decide +kernel
theorem dX5_item_20 : decode cX5_item 20 = .ok (.istore 5, 2) := by decide +kernel
theorem dX5_item_22 : decode cX5_item 22 = .ok (.iload 5, 2) := by decide +kernel
theorem dX5_item_24 : decode cX5_item 24 = .ok (.ifCond .eq 6, 3) := by decide +kernel
theorem dX5_item_27 : decode cX5_item 27 = .ok (.iload 5, 2) := by decide +kernel
theorem dX5_item_29 : decode cX5_item 29 = .ok (.ireturn, 1) := by decide +kernel
theorem dX5_item_30 : decode cX5_item 30 = .ok (.iload_n 3, 1) := by decide +kernel
theorem dX5_item_31 : decode cX5_item 31 = .ok (.ifCond .lt 16, 3) := by decide +kernel
theorem dX5_item_34 : decode cX5_item 34 = .ok (.iload_n 3, 1) := by decide +kernel
theorem dX5_item_35 : decode cX5_item 35 = .ok (.aload_n 0, 1) := by decide +kernel
theorem dX5_item_36 : decode cX5_item 36 = .ok (.getfield 49, 3) := by decide +kernel
theorem dX5_item_39 : decode cX5_item 39 = .ok (.iload_n 1, 1) := by decide +kernel
theorem dX5_item_40 : decode cX5_item 40 = .ok (.aaload, 1) := by decide +kernel
theorem dX5_item_41 : decode cX5_item 41 = .ok (.getfield 216, 3) := by decide +kernel
theorem dX5_item_44 : decode cX5_item 44 = .ok (.if_icmp .lt 6, 3) := by decide +kernel
theorem dX5_item_47 : decode cX5_item 47 = .ok (.bipush (-13), 2) := by decide +kernel
theorem dX5_item_49 : decode cX5_item 49 = .ok (.ireturn, 1) := by decide +kernel
theorem dX5_item_50 : decode cX5_item 50 = .ok (.aload_n 0, 1) := by decide +kernel
theorem dX5_item_51 : decode cX5_item 51 = .ok (.getfield 49, 3) := by decide +kernel
theorem dX5_item_54 : decode cX5_item 54 = .ok (.iload_n 1, 1) := by decide +kernel
theorem dX5_item_55 : decode cX5_item 55 = .ok (.aaload, 1) := by decide +kernel
theorem dX5_item_56 : decode cX5_item 56 = .ok (.iload_n 3, 1) := by decide +kernel
theorem dX5_item_57 : decode cX5_item 57 = .ok (.iload 4, 2) := by decide +kernel
theorem dX5_item_59 : decode cX5_item 59 = .ok (.invokevirtual 265, 3) := by decide +kernel
theorem dX5_item_62 : decode cX5_item 62 = .ok (.iconst 1, 1) := by decide +kernel
theorem dX5_item_63 : decode cX5_item 63 = .ok (.ireturn, 1) := by decide +kernel
theorem dX5_isSheetOfLane_0 : decode cX5_isSheetOfLane 0 = .ok (.iload_n 0, 1) := by decide +kernel
theorem dX5_isSheetOfLane_1 : decode cX5_isSheetOfLane 1 = .ok (.iconst 0, 1) := by decide +kernel
theorem dX5_isSheetOfLane_2 : decode cX5_isSheetOfLane 2 = .ok (.iconst 3, 1) := by decide +kernel
theorem dX5_isSheetOfLane_3 : decode cX5_isSheetOfLane 3 = .ok (.invokestatic 54, 3) := by decide +kernel
theorem dX5_isSheetOfLane_6 : decode cX5_isSheetOfLane 6 = .ok (.ifCond .eq 16, 3) := by decide +kernel
theorem dX5_isSheetOfLane_9 : decode cX5_isSheetOfLane 9 = .ok (.iload_n 1, 1) := by decide +kernel
theorem dX5_isSheetOfLane_10 : decode cX5_isSheetOfLane 10 = .ok (.iconst 0, 1) := by decide +kernel
theorem dX5_isSheetOfLane_11 : decode cX5_isSheetOfLane 11 = .ok (.iconst 2, 1) := by decide +kernel
theorem dX5_isSheetOfLane_12 : decode cX5_isSheetOfLane 12 = .ok (.invokestatic 54, 3) := by decide +kernel
theorem dX5_isSheetOfLane_15 : decode cX5_isSheetOfLane 15 = .ok (.ifCond .eq 7, 3) := by decide +kernel
theorem dX5_isSheetOfLane_18 : decode cX5_isSheetOfLane 18 = .ok (.iconst 1, 1) := by decide +kernel
theorem dX5_isSheetOfLane_19 : decode cX5_isSheetOfLane 19 = .ok (.goto 4, 3) := by decide +kernel
theorem dX5_isSheetOfLane_22 : decode cX5_isSheetOfLane 22 = .ok (.iconst 0, 1) := by decide +kernel
theorem dX5_isSheetOfLane_23 : decode cX5_isSheetOfLane 23 = .ok (.ireturn, 1) := by decide +kernel
theorem dX6_in_0 : decode cX6_in 0 = .ok (.lload_n 0, 1) := by decide +kernel
theorem dX6_in_1 : decode cX6_in 1 = .ok (.lload_n 2, 1) := by decide +kernel
theorem dX6_in_2 : decode cX6_in 2 = .ok (.lcmp, 1) := by decide +kernel
theorem dX6_in_3 : decode cX6_in 3 = .ok (.ifCond .lt 14, 3) := by decide +kernel
theorem dX6_in_6 : decode cX6_in 6 = .ok (.lload_n 0, 1) := by decide +kernel
theorem dX6_in_7 : decode cX6_in 7 = .ok (.lload 4, 2) := by decide +kernel
theorem dX6_in_9 : decode cX6_in 9 = .ok (.lcmp, 1) := by decide +kernel
theorem dX6_in_10 : decode cX6_in 10 = .ok (.ifCond .gt 7, 3) := by decide +kernel
theorem dX6_in_13 : decode cX6_in 13 = .ok (.iconst 1, 1) := by decide +kernel
theorem dX6_in_14 : decode cX6_in 14 = .ok (.goto 4, 3) := by decide +kernel
theorem dX6_in_17 : decode cX6_in 17 = .ok (.iconst 0, 1) := by decide +kernel
theorem dX6_in_18 : decode cX6_in 18 = .ok (.ireturn, 1) := by decide +kernel
theorem dX6_init_0 : decode cX6_init 0 = .ok (.aload_n 0, 1) := by decide +kernel
theorem dX6_init_1 : decode cX6_init 1 = .ok (.invokespecial 1, 3) := by decide +kernel
theorem dX6_init_4 : decode cX6_init 4 = .ok (.aload_n 0, 1) := by decide +kernel
theorem dX6_init_5 : decode cX6_init 5 = .ok (.sipush 154, 3) := by decide +kernel
theorem dX6_init_8 : decode cX6_init 8 = .ok (.newarray .int, 2) := by decide +kernel
theorem dX6_init_10 : decode cX6_init 10 = .ok (.putfield 7, 3) := by decide +kernel
theorem dX6_init_13 : decode cX6_init 13 = .ok (.aload_n 0, 1) := by decide +kernel
theorem dX6_init_14 : decode cX6_init 14 = .ok (.sipush 154, 3) := by decide +kernel
theorem dX6_init_17 : decode cX6_init 17 = .ok (.newarray .int, 2) := by decide +kernel
theorem dX6_init_19 : decode cX6_init 19 = .ok (.putfield 13, 3) := by decide +kernel
theorem dX6_init_22 : decode cX6_init 22 = .ok (.aload_n 0, 1) := by decide +kernel
theorem dX6_init_23 : decode cX6_init 23 = .ok (.bipush 64, 2) := by decide +kernel
theorem dX6_init_25 : decode cX6_init 25 = .ok (.newarray .int, 2) := by decide +kernel
theorem dX6_init_27 : decode cX6_init 27 = .ok (.putfield 16, 3) := by decide +kernel
theorem dX6_init_30 : decode cX6_init 30 = .ok (.aload_n 0, 1) := by decide +kernel
theorem dX6_init_31 : decode cX6_init 31 = .ok (.bipush 64, 2) := by decide +kernel
theorem dX6_init_33 : decode cX6_init 33 = .ok (.newarray .int, 2) := by decide +kernel
theorem dX6_init_35 : decode cX6_init 35 = .ok (.putfield 19, 3) := by decide +kernel
theorem dX6_init_38 : decode cX6_init 38 = .ok (.aload_n 0, 1) := by decide +kernel
theorem dX6_init_39 : decode cX6_init 39 = .ok (.bipush 80, 2) := by decide +kernel
theorem dX6_init_41 : decode cX6_init 41 = .ok (.newarray .int, 2) := by decide +kernel
theorem dX6_init_43 : decode cX6_init 43 = .ok (.putfield 22, 3) := by decide +kernel
theorem dX6_init_46 : decode cX6_init 46 = .ok (.aload_n 0, 1) := by decide +kernel
theorem dX6_init_47 : decode cX6_init 47 = .ok (.bipush 80, 2) := by decide +kernel
theorem dX6_init_49 : decode cX6_init 49 = .ok (.newarray .int, 2) := by decide +kernel
theorem dX6_init_51 : decode cX6_init 51 = .ok (.putfield 25, 3) := by decide +kernel
theorem dX6_init_54 : decode cX6_init 54 = .ok (.aload_n 0, 1) := by decide +kernel
theorem dX6_init_55 : decode cX6_init 55 = .ok (.bipush 80, 2) := by decide +kernel
theorem dX6_init_57 : decode cX6_init 57 = .ok (.newarray .int, 2) := by decide +kernel
theorem dX6_init_59 : decode cX6_init 59 = .ok (.putfield 28, 3) := by decide +kernel
theorem dX6_init_62 : decode cX6_init 62 = .ok (.aload_n 0, 1) := by decide +kernel
theorem dX6_init_63 : decode cX6_init 63 = .ok (.sipush 154, 3) := by decide +kernel
theorem dX6_init_66 : decode cX6_init 66 = .ok (.newarray .int, 2) := by decide +kernel
theorem dX6_init_68 : decode cX6_init 68 = .ok (.putfield 31, 3) := by decide +kernel
theorem dX6_init_71 : decode cX6_init 71 = .ok (.aload_n 0, 1) := by decide +kernel
theorem dX6_init_72 : decode cX6_init 72 = .ok (.iconst 4, 1) := by decide +kernel
theorem dX6_init_73 : decode cX6_init 73 = .ok (.newarray .int, 2) := by decide +kernel
theorem dX6_init_75 : decode cX6_init 75 = .ok (.putfield 34, 3) := by decide +kernel
theorem dX6_init_78 : decode cX6_init 78 = .ok (.aload_n 0, 1) := by decide +kernel
theorem dX6_init_79 : decode cX6_init 79 = .ok (.iconst 4, 1) := by decide +kernel
theorem dX6_init_80 : decode cX6_init 80 = .ok (.newarray .int, 2) := by decide +kernel
theorem dX6_init_82 : decode cX6_init 82 = .ok (.putfield 37, 3) := by decide +kernel
theorem dX6_init_85 : decode cX6_init 85 = .ok (.aload_n 0, 1) := by decide +kernel
theorem dX6_init_86 : decode cX6_init 86 = .ok (.bipush 96, 2) := by decide +kernel
theorem dX6_init_88 : decode cX6_init 88 = .ok (.newarray .int, 2) := by decide +kernel
theorem dX6_init_90 : decode cX6_init 90 = .ok (.putfield 40, 3) := by decide +kernel
theorem dX6_init_93 : decode cX6_init 93 = .ok (.iconst 0, 1) := by decide +kernel
theorem dX6_init_94 : decode cX6_init 94 = .ok (.istore_n 1, 1) := by decide +kernel
theorem dX6_init_95 : decode cX6_init 95 = .ok (.iload_n 1, 1) := by decide +kernel
theorem dX6_init_96 : decode cX6_init 96 = .ok (.iconst 4, 1) := by decide +kernel
theorem dX6_init_97 : decode cX6_init 97 = .ok (.if_icmp .ge 16, 3) := by decide +kernel
theorem dX6_init_100 : decode cX6_init 100 = .ok (.aload_n 0, 1) := by decide +kernel
theorem dX6_init_101 : decode cX6_init 101 = .ok (.getfield 34, 3) := by decide +kernel
theorem dX6_init_104 : decode cX6_init 104 = .ok (.iload_n 1, 1) := by decide +kernel
theorem dX6_init_105 : decode cX6_init 105 = .ok (.iconst (-1), 1) := by decide +kernel
theorem dX6_init_106 : decode cX6_init 106 = .ok (.iastore, 1) := by decide +kernel
theorem dX6_init_107 : decode cX6_init 107 = .ok (.iinc 1 1, 3) := by decide +kernel
theorem dX6_init_110 : decode cX6_init 110 = .ok (.goto (-15), 3) := by decide +kernel
theorem dX6_init_113 : decode cX6_init 113 = .ok (.aload_n 0, 1) := by decide +kernel
theorem dX6_init_114 : decode cX6_init 114 = .ok (.getfield 7, 3) := by decide +kernel
theorem dX6_init_117 : decode cX6_init 117 = .ok (.iconst 2, 1) := by decide +kernel
theorem dX6_init_118 : decode cX6_init 118 = .ok (.iconst 1, 1) := by decide +kernel
theorem dX6_init_119 : decode cX6_init 119 = .ok (.iastore, 1) := by decide +kernel
theorem dX6_init_120 : decode cX6_init 120 = .ok (.aload_n 0, 1) := by decide +kernel
theorem dX6_init_121 : decode cX6_init 121 = .ok (.getfield 7, 3) := by decide +kernel
theorem dX6_init_124 : decode cX6_init 124 = .ok (.bipush 11, 2) := by decide +kernel
theorem dX6_init_126 : decode cX6_init 126 = .ok (.bipush 10, 2) := by decide +kernel
theorem dX6_init_128 : decode cX6_init 128 = .ok (.iastore, 1) := by decide +kernel
theorem dX6_init_129 : decode cX6_init 129 = .ok (.aload_n 0, 1) := by decide +kernel
theorem dX6_init_130 : decode cX6_init 130 = .ok (.getfield 7, 3) := by decide +kernel
theorem dX6_init_133 : decode cX6_init 133 = .ok (.bipush 12, 2) := by decide +kernel
theorem dX6_init_135 : decode cX6_init 135 = .ok (.bipush 25, 2) := by decide +kernel
theorem dX6_init_137 : decode cX6_init 137 = .ok (.iastore, 1) := by decide +kernel
theorem dX6_init_138 : decode cX6_init 138 = .ok (.aload_n 0, 1) := by decide +kernel
theorem dX6_init_139 : decode cX6_init 139 = .ok (.getfield 7, 3) := by decide +kernel
theorem dX6_init_142 : decode cX6_init 142 = .ok (.bipush 13, 2) := by decide +kernel
theorem dX6_init_144 : decode cX6_init 144 = .ok (.iconst 3, 1) := by decide +kernel
theorem dX6_init_145 : decode cX6_init 145 = .ok (.iastore, 1) := by decide +kernel
theorem dX6_init_146 : decode cX6_init 146 = .ok (.aload_n 0, 1) := by decide +kernel
theorem dX6_init_147 : decode cX6_init 147 = .ok (.getfield 7, 3) := by decide +kernel
theorem dX6_init_150 : decode cX6_init 150 = .ok (.bipush 14, 2) := by decide +kernel
theorem dX6_init_152 : decode cX6_init 152 = .ok (.iconst 1, 1) := by decide +kernel
theorem dX6_init_153 : decode cX6_init 153 = .ok (.iastore, 1) := by decide +kernel
theorem dX6_init_154 : decode cX6_init 154 = .ok (.aload_n 0, 1) := by decide +kernel
theorem dX6_init_155 : decode cX6_init 155 = .ok (.getfield 7, 3) := by decide +kernel
theorem dX6_init_158 : decode cX6_init 158 = .ok (.bipush 15, 2) := by decide +kernel
theorem dX6_init_160 : decode cX6_init 160 = .ok (.bipush 99, 2) := by decide +kernel
theorem dX6_init_162 : decode cX6_init 162 = .ok (.iastore, 1) := by decide +kernel
theorem dX6_init_163 : decode cX6_init 163 = .ok (.iconst 0, 1) := by decide +kernel
theorem dX6_init_164 : decode cX6_init 164 = .ok (.istore_n 1, 1) := by decide +kernel
theorem dX6_init_165 : decode cX6_init 165 = .ok (.iload_n 1, 1) := by decide +kernel
theorem dX6_init_166 : decode cX6_init 166 = .ok (.bipush 10, 2) := by decide +kernel
theorem dX6_init_168 : decode cX6_init 168 = .ok (.if_icmp .ge 20, 3) := by decide +kernel
theorem dX6_init_171 : decode cX6_init 171 = .ok (.aload_n 0, 1) := by decide +kernel
theorem dX6_init_172 : decode cX6_init 172 = .ok (.getfield 7, 3) := by decide +kernel
theorem dX6_init_175 : decode cX6_init 175 = .ok (.bipush 20, 2) := by decide +kernel
theorem dX6_init_177 : decode cX6_init 177 = .ok (.iload_n 1, 1) := by decide +kernel
theorem dX6_init_178 : decode cX6_init 178 = .ok (.iadd, 1) := by decide +kernel
theorem dX6_init_179 : decode cX6_init 179 = .ok (.bipush (-4), 2) := by decide +kernel
theorem dX6_init_181 : decode cX6_init 181 = .ok (.iastore, 1) := by decide +kernel
theorem dX6_init_182 : decode cX6_init 182 = .ok (.iinc 1 1, 3) := by decide +kernel
theorem dX6_init_185 : decode cX6_init 185 = .ok (.goto (-20), 3) := by decide +kernel
theorem dX6_init_188 : decode cX6_init 188 = .ok (.return_, 1) := by decide +kernel
theorem dX6_keep_0 : decode cX6_keep 0 = .ok (.iconst 0, 1) := by decide +kernel
theorem dX6_keep_1 : decode cX6_keep 1 = .ok (.istore_n 2, 1) := by decide +kernel
theorem dX6_keep_2 : decode cX6_keep 2 = .ok (.iload_n 2, 1) := by decide +kernel
theorem dX6_keep_3 : decode cX6_keep 3 = .ok (.sipush 154, 3) := by decide +kernel
theorem dX6_keep_6 : decode cX6_keep 6 = .ok (.if_icmp .ge 18, 3) := by decide +kernel
theorem dX6_keep_9 : decode cX6_keep 9 = .ok (.aload_n 1, 1) := by decide +kernel
theorem dX6_keep_10 : decode cX6_keep 10 = .ok (.iload_n 2, 1) := by decide +kernel
theorem dX6_keep_11 : decode cX6_keep 11 = .ok (.aload_n 0, 1) := by decide +kernel
theorem dX6_keep_12 : decode cX6_keep 12 = .ok (.getfield 7, 3) := by decide +kernel
theorem dX6_keep_15 : decode cX6_keep 15 = .ok (.iload_n 2, 1) := by decide +kernel
theorem dX6_keep_16 : decode cX6_keep 16 = .ok (.iaload, 1) := by decide +kernel
theorem dX6_keep_17 : decode cX6_keep 17 = .ok (.iastore, 1) := by decide +kernel
theorem dX6_keep_18 : decode cX6_keep 18 = .ok (.iinc 2 1, 3) := by decide +kernel
theorem dX6_keep_21 : decode cX6_keep 21 = .ok (.goto (-19), 3) := by decide +kernel
theorem dX6_keep_24 : decode cX6_keep 24 = .ok (.return_, 1) := by decide +kernel
theorem dX6_bring_0 : decode cX6_bring 0 = .ok (.iconst 0, 1) := by decide +kernel
theorem dX6_bring_1 : decode cX6_bring 1 = .ok (.istore_n 2, 1) := by decide +kernel
theorem dX6_bring_2 : decode cX6_bring 2 = .ok (.iload_n 2, 1) := by decide +kernel
theorem dX6_bring_3 : decode cX6_bring 3 = .ok (.sipush 154, 3) := by decide +kernel
theorem dX6_bring_6 : decode cX6_bring 6 = .ok (.if_icmp .ge 18, 3) := by decide +kernel
theorem dX6_bring_9 : decode cX6_bring 9 = .ok (.aload_n 0, 1) := by decide +kernel
theorem dX6_bring_10 : decode cX6_bring 10 = .ok (.getfield 7, 3) := by decide +kernel
theorem dX6_bring_13 : decode cX6_bring 13 = .ok (.iload_n 2, 1) := by decide +kernel
theorem dX6_bring_14 : decode cX6_bring 14 = .ok (.aload_n 1, 1) := by decide +kernel
theorem dX6_bring_15 : decode cX6_bring 15 = .ok (.iload_n 2, 1) := by decide +kernel
theorem dX6_bring_16 : decode cX6_bring 16 = .ok (.iaload, 1) := by decide +kernel
theorem dX6_bring_17 : decode cX6_bring 17 = .ok (.iastore, 1) := by decide +kernel
theorem dX6_bring_18 : decode cX6_bring 18 = .ok (.iinc 2 1, 3) := by decide +kernel
theorem dX6_bring_21 : decode cX6_bring 21 = .ok (.goto (-19), 3) := by decide +kernel
theorem dX6_bring_24 : decode cX6_bring 24 = .ok (.return_, 1) := by decide +kernel
theorem dX6_isRecord_0 : decode cX6_isRecord 0 = .ok (.iload_n 1, 1) := by decide +kernel
theorem dX6_isRecord_1 : decode cX6_isRecord 1 = .ok (.i2l, 1) := by decide +kernel
theorem dX6_isRecord_2 : decode cX6_isRecord 2 = .ok (.lconst 0, 1) := by decide +kernel
theorem dX6_isRecord_3 : decode cX6_isRecord 3 = .ok (.aload_n 0, 1) := by decide +kernel
theorem dX6_isRecord_4 : decode cX6_isRecord 4 = .ok (.getfield 7, 3) := by decide +kernel
theorem dX6_isRecord_7 : decode cX6_isRecord 7 = .ok (.bipush 16, 2) := by decide +kernel
theorem dX6_isRecord_9 : decode cX6_isRecord 9 = .ok (.iaload, 1) := by decide +kernel
theorem dX6_isRecord_10 : decode cX6_isRecord 10 = .ok (.iconst 1, 1) := by decide +kernel
theorem dX6_isRecord_11 : decode cX6_isRecord 11 = .ok (.isub, 1) := by decide +kernel
theorem dX6_isRecord_12 : decode cX6_isRecord 12 = .ok (.i2l, 1) := by decide +kernel
theorem dX6_isRecord_13 : decode cX6_isRecord 13 = .ok (.invokestatic 43, 3) := by decide +kernel
theorem dX6_isRecord_16 : decode cX6_isRecord 16 = .ok (.ireturn, 1) := by decide +kernel
theorem dX6_isPlace_0 : decode cX6_isPlace 0 = .ok (.iload_n 0, 1) := by decide +kernel
theorem dX6_isPlace_1 : decode cX6_isPlace 1 = .ok (.i2l, 1) := by decide +kernel
theorem dX6_isPlace_2 : decode cX6_isPlace 2 = .ok (.lconst 0, 1) := by decide +kernel
theorem dX6_isPlace_3 : decode cX6_isPlace 3 = .ok (.ldc2_w 47, 3) := by decide +kernel
theorem dX6_isPlace_6 : decode cX6_isPlace 6 = .ok (.invokestatic 43, 3) := by decide +kernel
theorem dX6_isPlace_9 : decode cX6_isPlace 9 = .ok (.ireturn, 1) := by decide +kernel
theorem dX6_isSong_0 : decode cX6_isSong 0 = .ok (.iload_n 0, 1) := by decide +kernel
theorem dX6_isSong_1 : decode cX6_isSong 1 = .ok (.i2l, 1) := by decide +kernel
theorem dX6_isSong_2 : decode cX6_isSong 2 = .ok (.lconst 0, 1) := by decide +kernel
theorem dX6_isSong_3 : decode cX6_isSong 3 = .ok (.ldc2_w 49, 3) := by decide +kernel
theorem dX6_isSong_6 : decode cX6_isSong 6 = .ok (.invokestatic 43, 3) := by decide +kernel
theorem dX6_isSong_9 : decode cX6_isSong 9 = .ok (.ireturn, 1) := by decide +kernel
theorem dX6_record_0 : decode cX6_record 0 = .ok (.iload_n 1, 1) := by decide +kernel
theorem dX6_record_1 : decode cX6_record 1 = .ok (.i2l, 1) := by decide +kernel
theorem dX6_record_2 : decode cX6_record 2 = .ok (.lconst 1, 1) := by decide +kernel
theorem dX6_record_3 : decode cX6_record 3 = .ok (.ldc2_w 51, 3) := by decide +kernel
theorem dX6_record_6 : decode cX6_record 6 = .ok (.invokestatic 43, 3) := by decide +kernel
theorem dX6_record_9 : decode cX6_record 9 = .ok (.ifCond .eq 15, 3) := by decide +kernel
theorem dX6_record_12 : decode cX6_record 12 = .ok (.iload_n 2, 1) := by decide +kernel
theorem dX6_record_13 : decode cX6_record 13 = .ok (.i2l, 1) := by decide +kernel
theorem dX6_record_14 : decode cX6_record 14 = .ok (.lconst 1, 1) := by decide +kernel
theorem dX6_record_15 : decode cX6_record 15 = .ok (.ldc2_w 51, 3) := by decide +kernel
theorem dX6_record_18 : decode cX6_record 18 = .ok (.invokestatic 43, 3) := by decide +kernel
theorem dX6_record_21 : decode cX6_record 21 = .ok (.ifCond .ne 5, 3) := by decide +kernel
theorem dX6_record_24 : decode cX6_record 24 = .ok (.iconst (-1), 1) := by decide +kernel
theorem dX6_record_25 : decode cX6_record 25 = .ok (.ireturn, 1) := by decide +kernel
theorem dX6_record_26 : decode cX6_record 26 = .ok (.aload_n 0, 1) := by decide +kernel
theorem dX6_record_27 : decode cX6_record 27 = .ok (.getfield 7, 3) := by decide +kernel
theorem dX6_record_30 : decode cX6_record 30 = .ok (.bipush 16, 2) := by decide +kernel
theorem dX6_record_32 : decode cX6_record 32 = .ok (.iaload, 1) := by decide +kernel
theorem dX6_record_33 : decode cX6_record 33 = .ok (.bipush 16, 2) := by decide +kernel
theorem dX6_record_35 : decode cX6_record 35 = .ok (.if_icmp .ne 6, 3) := by decide +kernel
theorem dX6_record_38 : decode cX6_record 38 = .ok (.bipush (-3), 2) := by decide +kernel
theorem dX6_record_40 : decode cX6_record 40 = .ok (.ireturn, 1) := by decide +kernel
theorem dX6_record_41 : decode cX6_record 41 = .ok (.aload_n 0, 1) := by decide +kernel
theorem dX6_record_42 : decode cX6_record 42 = .ok (.getfield 7, 3) := by decide +kernel
theorem dX6_record_45 : decode cX6_record 45 = .ok (.bipush 90, 2) := by decide +kernel
theorem dX6_record_47 : decode cX6_record 47 = .ok (.iconst 2, 1) := by decide +kernel
theorem dX6_record_48 : decode cX6_record 48 = .ok (.aload_n 0, 1) := by decide +kernel
theorem dX6_record_49 : decode cX6_record 49 = .ok (.getfield 7, 3) := by decide +kernel
theorem dX6_record_52 : decode cX6_record 52 = .ok (.bipush 16, 2) := by decide +kernel
theorem dX6_record_54 : decode cX6_record 54 = .ok (.iaload, 1) := by decide +kernel
theorem dX6_record_55 : decode cX6_record 55 = .ok (.imul, 1) := by decide +kernel
theorem dX6_record_56 : decode cX6_record 56 = .ok (.iadd, 1) := by decide +kernel
theorem dX6_record_57 : decode cX6_record 57 = .ok (.iload_n 1, 1) := by decide +kernel
theorem dX6_record_58 : decode cX6_record 58 = .ok (.iastore, 1) := by decide +kernel
theorem dX6_record_59 : decode cX6_record 59 = .ok (.aload_n 0, 1) := by decide +kernel
theorem dX6_record_60 : decode cX6_record 60 = .ok (.getfield 7, 3) := by decide +kernel
theorem dX6_record_63 : decode cX6_record 63 = .ok (.bipush 90, 2) := by decide +kernel
theorem dX6_record_65 : decode cX6_record 65 = .ok (.iconst 2, 1) := by decide +kernel
theorem dX6_record_66 : decode cX6_record 66 = .ok (.aload_n 0, 1) := by decide +kernel
theorem dX6_record_67 : decode cX6_record 67 = .ok (.getfield 7, 3) := by decide +kernel
theorem dX6_record_70 : decode cX6_record 70 = .ok (.bipush 16, 2) := by decide +kernel
theorem dX6_record_72 : decode cX6_record 72 = .ok (.iaload, 1) := by decide +kernel
theorem dX6_record_73 : decode cX6_record 73 = .ok (.imul, 1) := by decide +kernel
theorem dX6_record_74 : decode cX6_record 74 = .ok (.iadd, 1) := by decide +kernel
theorem dX6_record_75 : decode cX6_record 75 = .ok (.iconst 1, 1) := by decide +kernel
theorem dX6_record_76 : decode cX6_record 76 = .ok (.iadd, 1) := by decide +kernel
theorem dX6_record_77 : decode cX6_record 77 = .ok (.iload_n 2, 1) := by decide +kernel
theorem dX6_record_78 : decode cX6_record 78 = .ok (.iastore, 1) := by decide +kernel
theorem dX6_record_79 : decode cX6_record 79 = .ok (.aload_n 0, 1) := by decide +kernel
theorem dX6_record_80 : decode cX6_record 80 = .ok (.getfield 7, 3) := by decide +kernel
theorem dX6_record_83 : decode cX6_record 83 = .ok (.bipush 16, 2) := by decide +kernel
theorem dX6_record_85 : decode cX6_record 85 = .ok (.dup2, 1) := by decide +kernel
theorem dX6_record_86 : decode cX6_record 86 = .ok (.iaload, 1) := by decide +kernel
theorem dX6_record_87 : decode cX6_record 87 = .ok (.iconst 1, 1) := by decide +kernel
theorem dX6_record_88 : decode cX6_record 88 = .ok (.iadd, 1) := by decide +kernel
theorem dX6_record_89 : decode cX6_record 89 = .ok (.iastore, 1) := by decide +kernel
theorem dX6_record_90 : decode cX6_record 90 = .ok (.aload_n 0, 1) := by decide +kernel
theorem dX6_record_91 : decode cX6_record 91 = .ok (.getfield 7, 3) := by decide +kernel
theorem dX6_record_94 : decode cX6_record 94 = .ok (.bipush 16, 2) := by decide +kernel
theorem dX6_record_96 : decode cX6_record 96 = .ok (.iaload, 1) := by decide +kernel
theorem dX6_record_97 : decode cX6_record 97 = .ok (.iconst 1, 1) := by decide +kernel
theorem dX6_record_98 : decode cX6_record 98 = .ok (.isub, 1) := by decide +kernel
theorem dX6_record_99 : decode cX6_record 99 = .ok (.ireturn, 1) := by decide +kernel
theorem dX6_placeOf_0 : decode cX6_placeOf 0 = .ok (.bipush (-4), 2) := by decide +kernel
theorem dX6_placeOf_2 : decode cX6_placeOf 2 = .ok (.istore_n 2, 1) := by decide +kernel
theorem dX6_placeOf_3 : decode cX6_placeOf 3 = .ok (.iconst 0, 1) := by decide +kernel
theorem dX6_placeOf_4 : decode cX6_placeOf 4 = .ok (.istore_n 3, 1) := by decide +kernel
theorem dX6_placeOf_5 : decode cX6_placeOf 5 = .ok (.iload_n 3, 1) := by decide +kernel
theorem dX6_placeOf_6 : decode cX6_placeOf 6 = .ok (.bipush 10, 2) := by decide +kernel
theorem dX6_placeOf_8 : decode cX6_placeOf 8 = .ok (.if_icmp .ge 28, 3) := by decide +kernel
theorem dX6_placeOf_11 : decode cX6_placeOf 11 = .ok (.aload_n 0, 1) := by decide +kernel
theorem dX6_placeOf_12 : decode cX6_placeOf 12 = .ok (.getfield 7, 3) := by decide +kernel
theorem dX6_placeOf_15 : decode cX6_placeOf 15 = .ok (.bipush 20, 2) := by decide +kernel
theorem dX6_placeOf_17 : decode cX6_placeOf 17 = .ok (.iload_n 3, 1) := by decide +kernel
theorem dX6_placeOf_18 : decode cX6_placeOf 18 = .ok (.iadd, 1) := by decide +kernel
theorem dX6_placeOf_19 : decode cX6_placeOf 19 = .ok (.iaload, 1) := by decide +kernel
theorem dX6_placeOf_20 : decode cX6_placeOf 20 = .ok (.iload_n 1, 1) := by decide +kernel
theorem dX6_placeOf_21 : decode cX6_placeOf 21 = .ok (.if_icmp .ne 7, 3) := by decide +kernel
theorem dX6_placeOf_24 : decode cX6_placeOf 24 = .ok (.iload_n 3, 1) := by decide +kernel
theorem dX6_placeOf_25 : decode cX6_placeOf 25 = .ok (.goto 4, 3) := by decide +kernel
theorem dX6_placeOf_28 : decode cX6_placeOf 28 = .ok (.iload_n 2, 1) := by decide +kernel
theorem dX6_placeOf_29 : decode cX6_placeOf 29 = .ok (.istore_n 2, 1) := by decide +kernel
theorem dX6_placeOf_30 : decode cX6_placeOf 30 = .ok (.iinc 3 1, 3) := by decide +kernel
theorem dX6_placeOf_33 : decode cX6_placeOf 33 = .ok (.goto (-28), 3) := by decide +kernel
theorem dX6_placeOf_36 : decode cX6_placeOf 36 = .ok (.iload_n 2, 1) := by decide +kernel
theorem dX6_placeOf_37 : decode cX6_placeOf 37 = .ok (.ireturn, 1) := by decide +kernel
theorem dX6_isOut_0 : decode cX6_isOut 0 = .ok (.aload_n 0, 1) := by decide +kernel
theorem dX6_isOut_1 : decode cX6_isOut 1 = .ok (.getfield 7, 3) := by decide +kernel
theorem dX6_isOut_4 : decode cX6_isOut 4 = .ok (.iconst 1, 1) := by decide +kernel
theorem dX6_isOut_5 : decode cX6_isOut 5 = .ok (.iaload, 1) := by decide +kernel
theorem dX6_isOut_6 : decode cX6_isOut 6 = .ok (.iload_n 1, 1) := by decide +kernel
theorem dX6_isOut_7 : decode cX6_isOut 7 = .ok (.if_icmp .ne 17, 3) := by decide +kernel
theorem dX6_isOut_10 : decode cX6_isOut 10 = .ok (.aload_n 0, 1) := by decide +kernel
theorem dX6_isOut_11 : decode cX6_isOut 11 = .ok (.getfield 7, 3) := by decide +kernel
theorem dX6_isOut_14 : decode cX6_isOut 14 = .ok (.iconst 3, 1) := by decide +kernel
theorem dX6_isOut_15 : decode cX6_isOut 15 = .ok (.iaload, 1) := by decide +kernel
theorem dX6_isOut_16 : decode cX6_isOut 16 = .ok (.iconst 3, 1) := by decide +kernel
theorem dX6_isOut_17 : decode cX6_isOut 17 = .ok (.if_icmp .lt 7, 3) := by decide +kernel
theorem dX6_isOut_20 : decode cX6_isOut 20 = .ok (.iconst 1, 1) := by decide +kernel
theorem dX6_isOut_21 : decode cX6_isOut 21 = .ok (.goto 4, 3) := by decide +kernel
theorem dX6_isOut_24 : decode cX6_isOut 24 = .ok (.iconst 0, 1) := by decide +kernel
theorem dX6_isOut_25 : decode cX6_isOut 25 = .ok (.ireturn, 1) := by decide +kernel
theorem dX6_change_0 : decode cX6_change 0 = .ok (.iload_n 1, 1) := by decide +kernel
theorem dX6_change_1 : decode cX6_change 1 = .ok (.invokestatic 53, 3) := by decide +kernel
theorem dX6_change_4 : decode cX6_change 4 = .ok (.ifCond .eq 16, 3) := by decide +kernel
theorem dX6_change_7 : decode cX6_change 7 = .ok (.iload_n 2, 1) := by decide +kernel
theorem dX6_change_8 : decode cX6_change 8 = .ok (.iconst (-1), 1) := by decide +kernel
theorem dX6_change_9 : decode cX6_change 9 = .ok (.if_icmp .eq 13, 3) := by decide +kernel
theorem dX6_change_12 : decode cX6_change 12 = .ok (.aload_n 0, 1) := by decide +kernel
theorem dX6_change_13 : decode cX6_change 13 = .ok (.iload_n 2, 1) := by decide +kernel
theorem dX6_change_14 : decode cX6_change 14 = .ok (.invokevirtual 57, 3) := by decide +kernel
theorem dX6_change_17 : decode cX6_change 17 = .ok (.ifCond .ne 5, 3) := by decide +kernel
theorem dX6_change_20 : decode cX6_change 20 = .ok (.iconst (-1), 1) := by decide +kernel
theorem dX6_change_21 : decode cX6_change 21 = .ok (.ireturn, 1) := by decide +kernel
theorem dX6_change_22 : decode cX6_change 22 = .ok (.iload_n 2, 1) := by decide +kernel
theorem dX6_change_23 : decode cX6_change 23 = .ok (.ifCond .ge 8, 3) := by decide +kernel
theorem dX6_change_26 : decode cX6_change 26 = .ok (.bipush (-4), 2) := by decide +kernel
theorem dX6_change_28 : decode cX6_change 28 = .ok (.goto 8, 3) := by decide +kernel
theorem dX6_change_31 : decode cX6_change 31 = .ok (.aload_n 0, 1) := by decide +kernel
theorem dX6_change_32 : decode cX6_change 32 = .ok (.iload_n 2, 1) := by decide +kernel
theorem dX6_change_33 : decode cX6_change 33 = .ok (.invokevirtual 60, 3) := by decide +kernel
theorem dX6_change_36 : decode cX6_change 36 = .ok (.istore_n 3, 1) := by decide +kernel
theorem dX6_change_37 : decode cX6_change 37 = .ok (.aload_n 0, 1) := by decide +kernel
theorem dX6_change_38 : decode cX6_change 38 = .ok (.iload_n 1, 1) := by decide +kernel
theorem dX6_change_39 : decode cX6_change 39 = .ok (.invokevirtual 64, 3) := by decide +kernel
theorem dX6_change_42 : decode cX6_change 42 = .ok (.ifCond .ne 12, 3) := by decide +kernel
theorem dX6_change_45 : decode cX6_change 45 = .ok (.iload_n 3, 1) := by decide +kernel
theorem dX6_change_46 : decode cX6_change 46 = .ok (.ifCond .lt 11, 3) := by decide +kernel
theorem dX6_change_49 : decode cX6_change 49 = .ok (.iload_n 3, 1) := by decide +kernel
theorem dX6_change_50 : decode cX6_change 50 = .ok (.iload_n 1, 1) := by decide +kernel
theorem dX6_change_51 : decode cX6_change 51 = .ok (.if_icmp .eq 6, 3) := by decide +kernel
theorem dX6_change_54 : decode cX6_change 54 = .ok (.bipush (-2), 2) := by decide +kernel
theorem dX6_change_56 : decode cX6_change 56 = .ok (.ireturn, 1) := by decide +kernel
theorem dX6_change_57 : decode cX6_change 57 = .ok (.aload_n 0, 1) := by decide +kernel
theorem dX6_change_58 : decode cX6_change 58 = .ok (.getfield 7, 3) := by decide +kernel
theorem dX6_change_61 : decode cX6_change 61 = .ok (.bipush 20, 2) := by decide +kernel
theorem dX6_change_63 : decode cX6_change 63 = .ok (.iload_n 1, 1) := by decide +kernel
theorem dX6_change_64 : decode cX6_change 64 = .ok (.iadd, 1) := by decide +kernel
theorem dX6_change_65 : decode cX6_change 65 = .ok (.iaload, 1) := by decide +kernel
theorem dX6_change_66 : decode cX6_change 66 = .ok (.istore 4, 2) := by decide +kernel
theorem dX6_change_68 : decode cX6_change 68 = .ok (.aload_n 0, 1) := by decide +kernel
theorem dX6_change_69 : decode cX6_change 69 = .ok (.getfield 7, 3) := by decide +kernel
theorem dX6_change_72 : decode cX6_change 72 = .ok (.bipush 20, 2) := by decide +kernel
theorem dX6_change_74 : decode cX6_change 74 = .ok (.iload_n 1, 1) := by decide +kernel
theorem dX6_change_75 : decode cX6_change 75 = .ok (.iadd, 1) := by decide +kernel
theorem dX6_change_76 : decode cX6_change 76 = .ok (.iload_n 2, 1) := by decide +kernel
theorem dX6_change_77 : decode cX6_change 77 = .ok (.ifCond .ge 8, 3) := by decide +kernel
theorem dX6_change_80 : decode cX6_change 80 = .ok (.bipush (-4), 2) := by decide +kernel
theorem dX6_change_82 : decode cX6_change 82 = .ok (.goto 4, 3) := by decide +kernel
theorem dX6_change_85 : decode cX6_change 85 = .ok (.iload_n 2, 1) := by decide +kernel
theorem dX6_change_86 : decode cX6_change 86 = .ok (.iastore, 1) := by decide +kernel
theorem dX6_change_87 : decode cX6_change 87 = .ok (.iload 4, 2) := by decide +kernel
theorem dX6_change_89 : decode cX6_change 89 = .ok (.ireturn, 1) := by decide +kernel
theorem dX6_told_0 : decode cX6_told 0 = .ok (.aload_n 0, 1) := by decide +kernel
theorem dX6_told_1 : decode cX6_told 1 = .ok (.iload_n 1, 1) := by decide +kernel
theorem dX6_told_2 : decode cX6_told 2 = .ok (.invokevirtual 57, 3) := by decide +kernel
theorem dX6_told_5 : decode cX6_told 5 = .ok (.ifCond .ne 5, 3) := by decide +kernel
theorem dX6_told_8 : decode cX6_told 8 = .ok (.iconst (-1), 1) := by decide +kernel
theorem dX6_told_9 : decode cX6_told 9 = .ok (.ireturn, 1) := by decide +kernel
theorem dX6_told_10 : decode cX6_told 10 = .ok (.iload_n 2, 1) := by decide +kernel
theorem dX6_told_11 : decode cX6_told 11 = .ok (.tableswitch 69 0 4 #[33, 33, 47, 47, 63], 33) := by decide +kernel
theorem dX6_told_44 : decode cX6_told 44 = .ok (.aload_n 0, 1) := by decide +kernel
theorem dX6_told_45 : decode cX6_told 45 = .ok (.getfield 7, 3) := by decide +kernel
theorem dX6_told_48 : decode cX6_told 48 = .ok (.bipush 90, 2) := by decide +kernel
theorem dX6_told_50 : decode cX6_told 50 = .ok (.iconst 2, 1) := by decide +kernel
theorem dX6_told_51 : decode cX6_told 51 = .ok (.iload_n 1, 1) := by decide +kernel
theorem dX6_told_52 : decode cX6_told 52 = .ok (.imul, 1) := by decide +kernel
theorem dX6_told_53 : decode cX6_told 53 = .ok (.iadd, 1) := by decide +kernel
theorem dX6_told_54 : decode cX6_told 54 = .ok (.iload_n 2, 1) := by decide +kernel
theorem dX6_told_55 : decode cX6_told 55 = .ok (.iadd, 1) := by decide +kernel
theorem dX6_told_56 : decode cX6_told 56 = .ok (.iaload, 1) := by decide +kernel
theorem dX6_told_57 : decode cX6_told 57 = .ok (.ireturn, 1) := by decide +kernel
theorem dX6_told_58 : decode cX6_told 58 = .ok (.aload_n 0, 1) := by decide +kernel
theorem dX6_told_59 : decode cX6_told 59 = .ok (.getfield 7, 3) := by decide +kernel
theorem dX6_told_62 : decode cX6_told 62 = .ok (.bipush 122, 2) := by decide +kernel
theorem dX6_told_64 : decode cX6_told 64 = .ok (.iconst 2, 1) := by decide +kernel
theorem dX6_told_65 : decode cX6_told 65 = .ok (.iload_n 1, 1) := by decide +kernel
theorem dX6_told_66 : decode cX6_told 66 = .ok (.imul, 1) := by decide +kernel
theorem dX6_told_67 : decode cX6_told 67 = .ok (.iadd, 1) := by decide +kernel
theorem dX6_told_68 : decode cX6_told 68 = .ok (.iload_n 2, 1) := by decide +kernel
theorem dX6_told_69 : decode cX6_told 69 = .ok (.iadd, 1) := by decide +kernel
theorem dX6_told_70 : decode cX6_told 70 = .ok (.iconst 2, 1) := by decide +kernel
theorem dX6_told_71 : decode cX6_told 71 = .ok (.isub, 1) := by decide +kernel
theorem dX6_told_72 : decode cX6_told 72 = .ok (.iaload, 1) := by decide +kernel
theorem dX6_told_73 : decode cX6_told 73 = .ok (.ireturn, 1) := by decide +kernel
theorem dX6_told_74 : decode cX6_told 74 = .ok (.aload_n 0, 1) := by decide +kernel
theorem dX6_told_75 : decode cX6_told 75 = .ok (.iload_n 1, 1) := by decide +kernel
theorem dX6_told_76 : decode cX6_told 76 = .ok (.invokevirtual 60, 3) := by decide +kernel
theorem dX6_told_79 : decode cX6_told 79 = .ok (.ireturn, 1) := by decide +kernel
theorem dX6_told_80 : decode cX6_told 80 = .ok (.iconst (-1), 1) := by decide +kernel
theorem dX6_told_81 : decode cX6_told 81 = .ok (.ireturn, 1) := by decide +kernel
theorem dX6_song_0 : decode cX6_song 0 = .ok (.iload_n 1, 1) := by decide +kernel
theorem dX6_song_1 : decode cX6_song 1 = .ok (.invokestatic 67, 3) := by decide +kernel
theorem dX6_song_4 : decode cX6_song 4 = .ok (.ifCond .ne 5, 3) := by decide +kernel
theorem dX6_song_7 : decode cX6_song 7 = .ok (.iconst (-1), 1) := by decide +kernel
theorem dX6_song_8 : decode cX6_song 8 = .ok (.ireturn, 1) := by decide +kernel
theorem dX6_song_9 : decode cX6_song 9 = .ok (.iload_n 2, 1) := by decide +kernel
theorem dX6_song_10 : decode cX6_song 10 = .ok (.tableswitch 72 0 3 #[30, 40, 50, 60], 30) := by decide +kernel
theorem dX6_song_40 : decode cX6_song 40 = .ok (.aload_n 0, 1) := by decide +kernel
theorem dX6_song_41 : decode cX6_song 41 = .ok (.getfield 7, 3) := by decide +kernel
theorem dX6_song_44 : decode cX6_song 44 = .ok (.bipush 30, 2) := by decide +kernel
theorem dX6_song_46 : decode cX6_song 46 = .ok (.iload_n 1, 1) := by decide +kernel
theorem dX6_song_47 : decode cX6_song 47 = .ok (.iadd, 1) := by decide +kernel
theorem dX6_song_48 : decode cX6_song 48 = .ok (.iaload, 1) := by decide +kernel
theorem dX6_song_49 : decode cX6_song 49 = .ok (.ireturn, 1) := by decide +kernel
theorem dX6_song_50 : decode cX6_song 50 = .ok (.aload_n 0, 1) := by decide +kernel
theorem dX6_song_51 : decode cX6_song 51 = .ok (.getfield 7, 3) := by decide +kernel
theorem dX6_song_54 : decode cX6_song 54 = .ok (.bipush 50, 2) := by decide +kernel
theorem dX6_song_56 : decode cX6_song 56 = .ok (.iload_n 1, 1) := by decide +kernel
theorem dX6_song_57 : decode cX6_song 57 = .ok (.iadd, 1) := by decide +kernel
theorem dX6_song_58 : decode cX6_song 58 = .ok (.iaload, 1) := by decide +kernel
theorem dX6_song_59 : decode cX6_song 59 = .ok (.ireturn, 1) := by decide +kernel
theorem dX6_song_60 : decode cX6_song 60 = .ok (.aload_n 0, 1) := by decide +kernel
theorem dX6_song_61 : decode cX6_song 61 = .ok (.getfield 7, 3) := by decide +kernel
theorem dX6_song_64 : decode cX6_song 64 = .ok (.bipush 70, 2) := by decide +kernel
theorem dX6_song_66 : decode cX6_song 66 = .ok (.iload_n 1, 1) := by decide +kernel
theorem dX6_song_67 : decode cX6_song 67 = .ok (.iadd, 1) := by decide +kernel
theorem dX6_song_68 : decode cX6_song 68 = .ok (.iaload, 1) := by decide +kernel
theorem dX6_song_69 : decode cX6_song 69 = .ok (.ireturn, 1) := by decide +kernel
theorem dX6_song_70 : decode cX6_song 70 = .ok (.aload_n 0, 1) := by decide +kernel
theorem dX6_song_71 : decode cX6_song 71 = .ok (.getfield 7, 3) := by decide +kernel
theorem dX6_song_74 : decode cX6_song 74 = .ok (.bipush 20, 2) := by decide +kernel
theorem dX6_song_76 : decode cX6_song 76 = .ok (.iload_n 1, 1) := by decide +kernel
theorem dX6_song_77 : decode cX6_song 77 = .ok (.iconst 2, 1) := by decide +kernel
theorem dX6_song_78 : decode cX6_song 78 = .ok (.idiv, 1) := by decide +kernel
theorem dX6_song_79 : decode cX6_song 79 = .ok (.iadd, 1) := by decide +kernel
theorem dX6_song_80 : decode cX6_song 80 = .ok (.iaload, 1) := by decide +kernel
theorem dX6_song_81 : decode cX6_song 81 = .ok (.ireturn, 1) := by decide +kernel
theorem dX6_song_82 : decode cX6_song 82 = .ok (.iconst (-1), 1) := by decide +kernel
theorem dX6_song_83 : decode cX6_song 83 = .ok (.ireturn, 1) := by decide +kernel
theorem dX6_stick_0 : decode cX6_stick 0 = .ok (.iload_n 1, 1) := by decide +kernel
theorem dX6_stick_1 : decode cX6_stick 1 = .ok (.invokestatic 67, 3) := by decide +kernel
theorem dX6_stick_4 : decode cX6_stick 4 = .ok (.ifCond .eq 15, 3) := by decide +kernel
theorem dX6_stick_7 : decode cX6_stick 7 = .ok (.iload_n 2, 1) := by decide +kernel
theorem dX6_stick_8 : decode cX6_stick 8 = .ok (.i2l, 1) := by decide +kernel
theorem dX6_stick_9 : decode cX6_stick 9 = .ok (.lconst 0, 1) := by decide +kernel
theorem dX6_stick_10 : decode cX6_stick 10 = .ok (.ldc2_w 70, 3) := by decide +kernel
theorem dX6_stick_13 : decode cX6_stick 13 = .ok (.invokestatic 43, 3) := by decide +kernel
theorem dX6_stick_16 : decode cX6_stick 16 = .ok (.ifCond .ne 5, 3) := by decide +kernel
theorem dX6_stick_19 : decode cX6_stick 19 = .ok (.iconst (-1), 1) := by decide +kernel
theorem dX6_stick_20 : decode cX6_stick 20 = .ok (.ireturn, 1) := by decide +kernel
theorem dX6_stick_21 : decode cX6_stick 21 = .ok (.aload_n 0, 1) := by decide +kernel
theorem dX6_stick_22 : decode cX6_stick 22 = .ok (.getfield 7, 3) := by decide +kernel
theorem dX6_stick_25 : decode cX6_stick 25 = .ok (.bipush 50, 2) := by decide +kernel
theorem dX6_stick_27 : decode cX6_stick 27 = .ok (.iload_n 1, 1) := by decide +kernel
theorem dX6_stick_28 : decode cX6_stick 28 = .ok (.iadd, 1) := by decide +kernel
theorem dX6_stick_29 : decode cX6_stick 29 = .ok (.iaload, 1) := by decide +kernel
theorem dX6_stick_30 : decode cX6_stick 30 = .ok (.istore_n 3, 1) := by decide +kernel
theorem dX6_stick_31 : decode cX6_stick 31 = .ok (.aload_n 0, 1) := by decide +kernel
theorem dX6_stick_32 : decode cX6_stick 32 = .ok (.getfield 7, 3) := by decide +kernel
theorem dX6_stick_35 : decode cX6_stick 35 = .ok (.bipush 50, 2) := by decide +kernel
theorem dX6_stick_37 : decode cX6_stick 37 = .ok (.iload_n 1, 1) := by decide +kernel
theorem dX6_stick_38 : decode cX6_stick 38 = .ok (.iadd, 1) := by decide +kernel
theorem dX6_stick_39 : decode cX6_stick 39 = .ok (.iload_n 2, 1) := by decide +kernel
theorem dX6_stick_40 : decode cX6_stick 40 = .ok (.iastore, 1) := by decide +kernel
theorem dX6_stick_41 : decode cX6_stick 41 = .ok (.aload_n 0, 1) := by decide +kernel
theorem dX6_stick_42 : decode cX6_stick 42 = .ok (.getfield 7, 3) := by decide +kernel
theorem dX6_stick_45 : decode cX6_stick 45 = .ok (.bipush 30, 2) := by decide +kernel
theorem dX6_stick_47 : decode cX6_stick 47 = .ok (.iload_n 1, 1) := by decide +kernel
theorem dX6_stick_48 : decode cX6_stick 48 = .ok (.iadd, 1) := by decide +kernel
theorem dX6_stick_49 : decode cX6_stick 49 = .ok (.iload_n 2, 1) := by decide +kernel
theorem dX6_stick_50 : decode cX6_stick 50 = .ok (.iconst 1, 1) := by decide +kernel
theorem dX6_stick_51 : decode cX6_stick 51 = .ok (.if_icmp .ne 7, 3) := by decide +kernel
theorem dX6_stick_54 : decode cX6_stick 54 = .ok (.iconst 1, 1) := by decide +kernel
theorem dX6_stick_55 : decode cX6_stick 55 = .ok (.goto 21, 3) := by decide +kernel
theorem dX6_stick_58 : decode cX6_stick 58 = .ok (.iload_n 2, 1) := by decide +kernel
theorem dX6_stick_59 : decode cX6_stick 59 = .ok (.iconst 2, 1) := by decide +kernel
theorem dX6_stick_60 : decode cX6_stick 60 = .ok (.if_icmp .ne 7, 3) := by decide +kernel
theorem dX6_stick_63 : decode cX6_stick 63 = .ok (.iconst 0, 1) := by decide +kernel
theorem dX6_stick_64 : decode cX6_stick 64 = .ok (.goto 12, 3) := by decide +kernel
theorem dX6_stick_67 : decode cX6_stick 67 = .ok (.aload_n 0, 1) := by decide +kernel
theorem dX6_stick_68 : decode cX6_stick 68 = .ok (.getfield 7, 3) := by decide +kernel
theorem dX6_stick_71 : decode cX6_stick 71 = .ok (.bipush 30, 2) := by decide +kernel
theorem dX6_stick_73 : decode cX6_stick 73 = .ok (.iload_n 1, 1) := by decide +kernel
theorem dX6_stick_74 : decode cX6_stick 74 = .ok (.iadd, 1) := by decide +kernel
theorem dX6_stick_75 : decode cX6_stick 75 = .ok (.iaload, 1) := by decide +kernel
theorem dX6_stick_76 : decode cX6_stick 76 = .ok (.iastore, 1) := by decide +kernel
theorem dX6_stick_77 : decode cX6_stick 77 = .ok (.iload_n 3, 1) := by decide +kernel
theorem dX6_stick_78 : decode cX6_stick 78 = .ok (.ireturn, 1) := by decide +kernel
theorem dX6_prices_0 : decode cX6_prices 0 = .ok (.iload_n 1, 1) := by decide +kernel
theorem dX6_prices_1 : decode cX6_prices 1 = .ok (.i2l, 1) := by decide +kernel
theorem dX6_prices_2 : decode cX6_prices 2 = .ok (.lconst 1, 1) := by decide +kernel
theorem dX6_prices_3 : decode cX6_prices 3 = .ok (.ldc2_w 72, 3) := by decide +kernel
theorem dX6_prices_6 : decode cX6_prices 6 = .ok (.invokestatic 43, 3) := by decide +kernel
theorem dX6_prices_9 : decode cX6_prices 9 = .ok (.ifCond .eq 28, 3) := by decide +kernel
theorem dX6_prices_12 : decode cX6_prices 12 = .ok (.iload_n 2, 1) := by decide +kernel
theorem dX6_prices_13 : decode cX6_prices 13 = .ok (.i2l, 1) := by decide +kernel
theorem dX6_prices_14 : decode cX6_prices 14 = .ok (.iload_n 1, 1) := by decide +kernel
theorem dX6_prices_15 : decode cX6_prices 15 = .ok (.i2l, 1) := by decide +kernel
theorem dX6_prices_16 : decode cX6_prices 16 = .ok (.ldc2_w 74, 3) := by decide +kernel
theorem dX6_prices_19 : decode cX6_prices 19 = .ok (.invokestatic 43, 3) := by decide +kernel
theorem dX6_prices_22 : decode cX6_prices 22 = .ok (.ifCond .eq 15, 3) := by decide +kernel
theorem dX6_prices_25 : decode cX6_prices 25 = .ok (.iload_n 3, 1) := by decide +kernel
theorem dX6_prices_26 : decode cX6_prices 26 = .ok (.i2l, 1) := by decide +kernel
theorem dX6_prices_27 : decode cX6_prices 27 = .ok (.lconst 1, 1) := by decide +kernel
theorem dX6_prices_28 : decode cX6_prices 28 = .ok (.ldc2_w 76, 3) := by decide +kernel
theorem dX6_prices_31 : decode cX6_prices 31 = .ok (.invokestatic 43, 3) := by decide +kernel
theorem dX6_prices_34 : decode cX6_prices 34 = .ok (.ifCond .ne 5, 3) := by decide +kernel
theorem dX6_prices_37 : decode cX6_prices 37 = .ok (.iconst (-1), 1) := by decide +kernel
theorem dX6_prices_38 : decode cX6_prices 38 = .ok (.ireturn, 1) := by decide +kernel
theorem dX6_prices_39 : decode cX6_prices 39 = .ok (.aload_n 0, 1) := by decide +kernel
theorem dX6_prices_40 : decode cX6_prices 40 = .ok (.getfield 7, 3) := by decide +kernel
theorem dX6_prices_43 : decode cX6_prices 43 = .ok (.bipush 11, 2) := by decide +kernel
theorem dX6_prices_45 : decode cX6_prices 45 = .ok (.iload_n 1, 1) := by decide +kernel
theorem dX6_prices_46 : decode cX6_prices 46 = .ok (.iastore, 1) := by decide +kernel
theorem dX6_prices_47 : decode cX6_prices 47 = .ok (.aload_n 0, 1) := by decide +kernel
theorem dX6_prices_48 : decode cX6_prices 48 = .ok (.getfield 7, 3) := by decide +kernel
theorem dX6_prices_51 : decode cX6_prices 51 = .ok (.bipush 12, 2) := by decide +kernel
theorem dX6_prices_53 : decode cX6_prices 53 = .ok (.iload_n 2, 1) := by decide +kernel
theorem dX6_prices_54 : decode cX6_prices 54 = .ok (.iastore, 1) := by decide +kernel
theorem dX6_prices_55 : decode cX6_prices 55 = .ok (.aload_n 0, 1) := by decide +kernel
theorem dX6_prices_56 : decode cX6_prices 56 = .ok (.getfield 7, 3) := by decide +kernel
theorem dX6_prices_59 : decode cX6_prices 59 = .ok (.bipush 13, 2) := by decide +kernel
theorem dX6_prices_61 : decode cX6_prices 61 = .ok (.iload_n 3, 1) := by decide +kernel
theorem dX6_prices_62 : decode cX6_prices 62 = .ok (.iastore, 1) := by decide +kernel
theorem dX6_prices_63 : decode cX6_prices 63 = .ok (.aload_n 0, 1) := by decide +kernel
theorem dX6_prices_64 : decode cX6_prices 64 = .ok (.getfield 7, 3) := by decide +kernel
theorem dX6_prices_67 : decode cX6_prices 67 = .ok (.bipush 9, 2) := by decide +kernel
theorem dX6_prices_69 : decode cX6_prices 69 = .ok (.iconst 0, 1) := by decide +kernel
theorem dX6_prices_70 : decode cX6_prices 70 = .ok (.iastore, 1) := by decide +kernel
theorem dX6_prices_71 : decode cX6_prices 71 = .ok (.iconst 1, 1) := by decide +kernel
theorem dX6_prices_72 : decode cX6_prices 72 = .ok (.ireturn, 1) := by decide +kernel
theorem dX6_owes_0 : decode cX6_owes 0 = .ok (.aload_n 0, 1) := by decide +kernel
theorem dX6_owes_1 : decode cX6_owes 1 = .ok (.getfield 7, 3) := by decide +kernel
theorem dX6_owes_4 : decode cX6_owes 4 = .ok (.bipush 13, 2) := by decide +kernel
theorem dX6_owes_6 : decode cX6_owes 6 = .ok (.iaload, 1) := by decide +kernel
theorem dX6_owes_7 : decode cX6_owes 7 = .ok (.aload_n 0, 1) := by decide +kernel
theorem dX6_owes_8 : decode cX6_owes 8 = .ok (.getfield 7, 3) := by decide +kernel
theorem dX6_owes_11 : decode cX6_owes 11 = .ok (.bipush 9, 2) := by decide +kernel
theorem dX6_owes_13 : decode cX6_owes 13 = .ok (.iaload, 1) := by decide +kernel
theorem dX6_owes_14 : decode cX6_owes 14 = .ok (.aload_n 0, 1) := by decide +kernel
theorem dX6_owes_15 : decode cX6_owes 15 = .ok (.getfield 7, 3) := by decide +kernel
theorem dX6_owes_18 : decode cX6_owes 18 = .ok (.bipush 12, 2) := by decide +kernel
theorem dX6_owes_20 : decode cX6_owes 20 = .ok (.iaload, 1) := by decide +kernel
theorem dX6_owes_21 : decode cX6_owes 21 = .ok (.idiv, 1) := by decide +kernel
theorem dX6_owes_22 : decode cX6_owes 22 = .ok (.imul, 1) := by decide +kernel
theorem dX6_owes_23 : decode cX6_owes 23 = .ok (.aload_n 0, 1) := by decide +kernel
theorem dX6_owes_24 : decode cX6_owes 24 = .ok (.getfield 7, 3) := by decide +kernel
theorem dX6_owes_27 : decode cX6_owes 27 = .ok (.bipush 9, 2) := by decide +kernel
theorem dX6_owes_29 : decode cX6_owes 29 = .ok (.iaload, 1) := by decide +kernel
theorem dX6_owes_30 : decode cX6_owes 30 = .ok (.aload_n 0, 1) := by decide +kernel
theorem dX6_owes_31 : decode cX6_owes 31 = .ok (.getfield 7, 3) := by decide +kernel
theorem dX6_owes_34 : decode cX6_owes 34 = .ok (.bipush 12, 2) := by decide +kernel
theorem dX6_owes_36 : decode cX6_owes 36 = .ok (.iaload, 1) := by decide +kernel
theorem dX6_owes_37 : decode cX6_owes 37 = .ok (.irem, 1) := by decide +kernel
theorem dX6_owes_38 : decode cX6_owes 38 = .ok (.aload_n 0, 1) := by decide +kernel
theorem dX6_owes_39 : decode cX6_owes 39 = .ok (.getfield 7, 3) := by decide +kernel
theorem dX6_owes_42 : decode cX6_owes 42 = .ok (.bipush 11, 2) := by decide +kernel
theorem dX6_owes_44 : decode cX6_owes 44 = .ok (.iaload, 1) := by decide +kernel
theorem dX6_owes_45 : decode cX6_owes 45 = .ok (.idiv, 1) := by decide +kernel
theorem dX6_owes_46 : decode cX6_owes 46 = .ok (.iadd, 1) := by decide +kernel
theorem dX6_owes_47 : decode cX6_owes 47 = .ok (.ireturn, 1) := by decide +kernel
theorem dX6_coin_0 : decode cX6_coin 0 = .ok (.iload_n 1, 1) := by decide +kernel
theorem dX6_coin_1 : decode cX6_coin 1 = .ok (.i2l, 1) := by decide +kernel
theorem dX6_coin_2 : decode cX6_coin 2 = .ok (.lconst 1, 1) := by decide +kernel
theorem dX6_coin_3 : decode cX6_coin 3 = .ok (.ldc2_w 72, 3) := by decide +kernel
theorem dX6_coin_6 : decode cX6_coin 6 = .ok (.invokestatic 43, 3) := by decide +kernel
theorem dX6_coin_9 : decode cX6_coin 9 = .ok (.ifCond .ne 5, 3) := by decide +kernel
theorem dX6_coin_12 : decode cX6_coin 12 = .ok (.iconst (-1), 1) := by decide +kernel
theorem dX6_coin_13 : decode cX6_coin 13 = .ok (.ireturn, 1) := by decide +kernel
theorem dX6_coin_14 : decode cX6_coin 14 = .ok (.aload_n 0, 1) := by decide +kernel
theorem dX6_coin_15 : decode cX6_coin 15 = .ok (.invokevirtual 78, 3) := by decide +kernel
theorem dX6_coin_18 : decode cX6_coin 18 = .ok (.istore_n 2, 1) := by decide +kernel
theorem dX6_coin_19 : decode cX6_coin 19 = .ok (.aload_n 0, 1) := by decide +kernel
theorem dX6_coin_20 : decode cX6_coin 20 = .ok (.getfield 7, 3) := by decide +kernel
theorem dX6_coin_23 : decode cX6_coin 23 = .ok (.bipush 9, 2) := by decide +kernel
theorem dX6_coin_25 : decode cX6_coin 25 = .ok (.dup2, 1) := by decide +kernel
theorem dX6_coin_26 : decode cX6_coin 26 = .ok (.iaload, 1) := by decide +kernel
theorem dX6_coin_27 : decode cX6_coin 27 = .ok (.iload_n 1, 1) := by decide +kernel
theorem dX6_coin_28 : decode cX6_coin 28 = .ok (.iadd, 1) := by decide +kernel
theorem dX6_coin_29 : decode cX6_coin 29 = .ok (.iastore, 1) := by decide +kernel
theorem dX6_coin_30 : decode cX6_coin 30 = .ok (.aload_n 0, 1) := by decide +kernel
theorem dX6_coin_31 : decode cX6_coin 31 = .ok (.getfield 7, 3) := by decide +kernel
theorem dX6_coin_34 : decode cX6_coin 34 = .ok (.bipush 10, 2) := by decide +kernel
theorem dX6_coin_36 : decode cX6_coin 36 = .ok (.dup2, 1) := by decide +kernel
theorem dX6_coin_37 : decode cX6_coin 37 = .ok (.iaload, 1) := by decide +kernel
theorem dX6_coin_38 : decode cX6_coin 38 = .ok (.iload_n 1, 1) := by decide +kernel
theorem dX6_coin_39 : decode cX6_coin 39 = .ok (.iadd, 1) := by decide +kernel
theorem dX6_coin_40 : decode cX6_coin 40 = .ok (.iastore, 1) := by decide +kernel
theorem dX6_coin_41 : decode cX6_coin 41 = .ok (.aload_n 0, 1) := by decide +kernel
theorem dX6_coin_42 : decode cX6_coin 42 = .ok (.getfield 7, 3) := by decide +kernel
theorem dX6_coin_45 : decode cX6_coin 45 = .ok (.bipush 7, 2) := by decide +kernel
theorem dX6_coin_47 : decode cX6_coin 47 = .ok (.dup2, 1) := by decide +kernel
theorem dX6_coin_48 : decode cX6_coin 48 = .ok (.iaload, 1) := by decide +kernel
theorem dX6_coin_49 : decode cX6_coin 49 = .ok (.aload_n 0, 1) := by decide +kernel
theorem dX6_coin_50 : decode cX6_coin 50 = .ok (.invokevirtual 78, 3) := by decide +kernel
theorem dX6_coin_53 : decode cX6_coin 53 = .ok (.iload_n 2, 1) := by decide +kernel
theorem dX6_coin_54 : decode cX6_coin 54 = .ok (.if_icmp .le 12, 3) := by decide +kernel
theorem dX6_coin_57 : decode cX6_coin 57 = .ok (.aload_n 0, 1) := by decide +kernel
theorem dX6_coin_58 : decode cX6_coin 58 = .ok (.invokevirtual 78, 3) := by decide +kernel
theorem dX6_coin_61 : decode cX6_coin 61 = .ok (.iload_n 2, 1) := by decide +kernel
theorem dX6_coin_62 : decode cX6_coin 62 = .ok (.isub, 1) := by decide +kernel
theorem dX6_coin_63 : decode cX6_coin 63 = .ok (.goto 4, 3) := by decide +kernel
theorem dX6_coin_66 : decode cX6_coin 66 = .ok (.iconst 0, 1) := by decide +kernel
theorem dX6_coin_67 : decode cX6_coin 67 = .ok (.iadd, 1) := by decide +kernel
theorem dX6_coin_68 : decode cX6_coin 68 = .ok (.iastore, 1) := by decide +kernel
theorem dX6_coin_69 : decode cX6_coin 69 = .ok (.aload_n 0, 1) := by decide +kernel
theorem dX6_coin_70 : decode cX6_coin 70 = .ok (.getfield 7, 3) := by decide +kernel
theorem dX6_coin_73 : decode cX6_coin 73 = .ok (.bipush 7, 2) := by decide +kernel
theorem dX6_coin_75 : decode cX6_coin 75 = .ok (.iaload, 1) := by decide +kernel
theorem dX6_coin_76 : decode cX6_coin 76 = .ok (.ireturn, 1) := by decide +kernel
theorem dX6_set_0 : decode cX6_set 0 = .ok (.iload_n 1, 1) := by decide +kernel
theorem dX6_set_1 : decode cX6_set 1 = .ok (.ifCond .ne 16, 3) := by decide +kernel
theorem dX6_set_4 : decode cX6_set 4 = .ok (.iload_n 2, 1) := by decide +kernel
theorem dX6_set_5 : decode cX6_set 5 = .ok (.i2l, 1) := by decide +kernel
theorem dX6_set_6 : decode cX6_set 6 = .ok (.lconst 0, 1) := by decide +kernel
theorem dX6_set_7 : decode cX6_set 7 = .ok (.lconst 1, 1) := by decide +kernel
theorem dX6_set_8 : decode cX6_set 8 = .ok (.invokestatic 43, 3) := by decide +kernel
theorem dX6_set_11 : decode cX6_set 11 = .ok (.ifCond .ne 25, 3) := by decide +kernel
theorem dX6_set_14 : decode cX6_set 14 = .ok (.goto 20, 3) := by decide +kernel
theorem dX6_set_17 : decode cX6_set 17 = .ok (.iload_n 1, 1) := by decide +kernel
theorem dX6_set_18 : decode cX6_set 18 = .ok (.iconst 1, 1) := by decide +kernel
theorem dX6_set_19 : decode cX6_set 19 = .ok (.if_icmp .ne 15, 3) := by decide +kernel
theorem dX6_set_22 : decode cX6_set 22 = .ok (.iload_n 2, 1) := by decide +kernel
theorem dX6_set_23 : decode cX6_set 23 = .ok (.i2l, 1) := by decide +kernel
theorem dX6_set_24 : decode cX6_set 24 = .ok (.lconst 1, 1) := by decide +kernel
theorem dX6_set_25 : decode cX6_set 25 = .ok (.ldc2_w 72, 3) := by decide +kernel
theorem dX6_set_28 : decode cX6_set 28 = .ok (.invokestatic 43, 3) := by decide +kernel
theorem dX6_set_31 : decode cX6_set 31 = .ok (.ifCond .ne 5, 3) := by decide +kernel
theorem dX6_set_34 : decode cX6_set 34 = .ok (.iconst (-1), 1) := by decide +kernel
theorem dX6_set_35 : decode cX6_set 35 = .ok (.ireturn, 1) := by decide +kernel
theorem dX6_set_36 : decode cX6_set 36 = .ok (.aload_n 0, 1) := by decide +kernel
theorem dX6_set_37 : decode cX6_set 37 = .ok (.getfield 7, 3) := by decide +kernel
theorem dX6_set_40 : decode cX6_set 40 = .ok (.bipush 14, 2) := by decide +kernel
theorem dX6_set_42 : decode cX6_set 42 = .ok (.iload_n 1, 1) := by decide +kernel
theorem dX6_set_43 : decode cX6_set 43 = .ok (.iadd, 1) := by decide +kernel
theorem dX6_set_44 : decode cX6_set 44 = .ok (.iaload, 1) := by decide +kernel
theorem dX6_set_45 : decode cX6_set 45 = .ok (.istore_n 3, 1) := by decide +kernel
theorem dX6_set_46 : decode cX6_set 46 = .ok (.aload_n 0, 1) := by decide +kernel
theorem dX6_set_47 : decode cX6_set 47 = .ok (.getfield 7, 3) := by decide +kernel
theorem dX6_set_50 : decode cX6_set 50 = .ok (.bipush 14, 2) := by decide +kernel
theorem dX6_set_52 : decode cX6_set 52 = .ok (.iload_n 1, 1) := by decide +kernel
theorem dX6_set_53 : decode cX6_set 53 = .ok (.iadd, 1) := by decide +kernel
theorem dX6_set_54 : decode cX6_set 54 = .ok (.iload_n 2, 1) := by decide +kernel
theorem dX6_set_55 : decode cX6_set 55 = .ok (.iastore, 1) := by decide +kernel
theorem dX6_set_56 : decode cX6_set 56 = .ok (.iload_n 3, 1) := by decide +kernel
theorem dX6_set_57 : decode cX6_set 57 = .ok (.ireturn, 1) := by decide +kernel
theorem dX6_key_0 : decode cX6_key 0 = .ok (.iload_n 1, 1) := by decide +kernel
theorem dX6_key_1 : decode cX6_key 1 = .ok (.invokestatic 67, 3) := by decide +kernel
theorem dX6_key_4 : decode cX6_key 4 = .ok (.ifCond .ne 5, 3) := by decide +kernel
theorem dX6_key_7 : decode cX6_key 7 = .ok (.iconst (-1), 1) := by decide +kernel
theorem dX6_key_8 : decode cX6_key 8 = .ok (.ireturn, 1) := by decide +kernel
theorem dX6_key_9 : decode cX6_key 9 = .ok (.aload_n 0, 1) := by decide +kernel
theorem dX6_key_10 : decode cX6_key 10 = .ok (.getfield 7, 3) := by decide +kernel
theorem dX6_key_13 : decode cX6_key 13 = .ok (.bipush 7, 2) := by decide +kernel
theorem dX6_key_15 : decode cX6_key 15 = .ok (.iaload, 1) := by decide +kernel
theorem dX6_key_16 : decode cX6_key 16 = .ok (.ifCond .ne 6, 3) := by decide +kernel
theorem dX6_key_19 : decode cX6_key 19 = .ok (.bipush (-2), 2) := by decide +kernel
theorem dX6_key_21 : decode cX6_key 21 = .ok (.ireturn, 1) := by decide +kernel
theorem dX6_key_22 : decode cX6_key 22 = .ok (.aload_n 0, 1) := by decide +kernel
theorem dX6_key_23 : decode cX6_key 23 = .ok (.getfield 7, 3) := by decide +kernel
theorem dX6_key_26 : decode cX6_key 26 = .ok (.bipush 30, 2) := by decide +kernel
theorem dX6_key_28 : decode cX6_key 28 = .ok (.iload_n 1, 1) := by decide +kernel
theorem dX6_key_29 : decode cX6_key 29 = .ok (.iadd, 1) := by decide +kernel
theorem dX6_key_30 : decode cX6_key 30 = .ok (.iaload, 1) := by decide +kernel
theorem dX6_key_31 : decode cX6_key 31 = .ok (.ifCond .ne 19, 3) := by decide +kernel
theorem dX6_key_34 : decode cX6_key 34 = .ok (.aload_n 0, 1) := by decide +kernel
theorem dX6_key_35 : decode cX6_key 35 = .ok (.getfield 7, 3) := by decide +kernel
theorem dX6_key_38 : decode cX6_key 38 = .ok (.bipush 50, 2) := by decide +kernel
theorem dX6_key_40 : decode cX6_key 40 = .ok (.iload_n 1, 1) := by decide +kernel
theorem dX6_key_41 : decode cX6_key 41 = .ok (.iadd, 1) := by decide +kernel
theorem dX6_key_42 : decode cX6_key 42 = .ok (.iaload, 1) := by decide +kernel
theorem dX6_key_43 : decode cX6_key 43 = .ok (.ifCond .ne 7, 3) := by decide +kernel
theorem dX6_key_46 : decode cX6_key 46 = .ok (.iconst 1, 1) := by decide +kernel
theorem dX6_key_47 : decode cX6_key 47 = .ok (.goto 4, 3) := by decide +kernel
theorem dX6_key_50 : decode cX6_key 50 = .ok (.iconst 0, 1) := by decide +kernel
theorem dX6_key_51 : decode cX6_key 51 = .ok (.istore_n 2, 1) := by decide +kernel
theorem dX6_key_52 : decode cX6_key 52 = .ok (.iload_n 2, 1) := by decide +kernel
theorem dX6_key_53 : decode cX6_key 53 = .ok (.ifCond .ne 17, 3) := by decide +kernel
theorem dX6_key_56 : decode cX6_key 56 = .ok (.aload_n 0, 1) := by decide +kernel
theorem dX6_key_57 : decode cX6_key 57 = .ok (.getfield 7, 3) := by decide +kernel
theorem dX6_key_60 : decode cX6_key 60 = .ok (.bipush 14, 2) := by decide +kernel
theorem dX6_key_62 : decode cX6_key 62 = .ok (.iaload, 1) := by decide +kernel
theorem dX6_key_63 : decode cX6_key 63 = .ok (.iconst 1, 1) := by decide +kernel
theorem dX6_key_64 : decode cX6_key 64 = .ok (.if_icmp .ne 6, 3) := by decide +kernel
theorem dX6_key_67 : decode cX6_key 67 = .ok (.bipush (-2), 2) := by decide +kernel
theorem dX6_key_69 : decode cX6_key 69 = .ok (.ireturn, 1) := by decide +kernel
theorem dX6_key_70 : decode cX6_key 70 = .ok (.aload_n 0, 1) := by decide +kernel
theorem dX6_key_71 : decode cX6_key 71 = .ok (.getfield 7, 3) := by decide +kernel
theorem dX6_key_74 : decode cX6_key 74 = .ok (.bipush 30, 2) := by decide +kernel
theorem dX6_key_76 : decode cX6_key 76 = .ok (.iload_n 1, 1) := by decide +kernel
theorem dX6_key_77 : decode cX6_key 77 = .ok (.iadd, 1) := by decide +kernel
theorem dX6_key_78 : decode cX6_key 78 = .ok (.iload_n 2, 1) := by decide +kernel
theorem dX6_key_79 : decode cX6_key 79 = .ok (.ifCond .eq 7, 3) := by decide +kernel
theorem dX6_key_82 : decode cX6_key 82 = .ok (.iconst 1, 1) := by decide +kernel
theorem dX6_key_83 : decode cX6_key 83 = .ok (.goto 12, 3) := by decide +kernel
theorem dX6_key_86 : decode cX6_key 86 = .ok (.aload_n 0, 1) := by decide +kernel
theorem dX6_key_87 : decode cX6_key 87 = .ok (.getfield 7, 3) := by decide +kernel
theorem dX6_key_90 : decode cX6_key 90 = .ok (.bipush 30, 2) := by decide +kernel
theorem dX6_key_92 : decode cX6_key 92 = .ok (.iload_n 1, 1) := by decide +kernel
theorem dX6_key_93 : decode cX6_key 93 = .ok (.iadd, 1) := by decide +kernel
theorem dX6_key_94 : decode cX6_key 94 = .ok (.iaload, 1) := by decide +kernel
theorem dX6_key_95 : decode cX6_key 95 = .ok (.iastore, 1) := by decide +kernel
theorem dX6_key_96 : decode cX6_key 96 = .ok (.aload_n 0, 1) := by decide +kernel
theorem dX6_key_97 : decode cX6_key 97 = .ok (.getfield 7, 3) := by decide +kernel
theorem dX6_key_100 : decode cX6_key 100 = .ok (.bipush 8, 2) := by decide +kernel
theorem dX6_key_102 : decode cX6_key 102 = .ok (.dup2, 1) := by decide +kernel
theorem dX6_key_103 : decode cX6_key 103 = .ok (.iaload, 1) := by decide +kernel
theorem dX6_key_104 : decode cX6_key 104 = .ok (.iload_n 2, 1) := by decide +kernel
theorem dX6_key_105 : decode cX6_key 105 = .ok (.ifCond .eq 7, 3) := by decide +kernel
theorem dX6_key_108 : decode cX6_key 108 = .ok (.iconst 0, 1) := by decide +kernel
theorem dX6_key_109 : decode cX6_key 109 = .ok (.goto 4, 3) := by decide +kernel
theorem dX6_key_112 : decode cX6_key 112 = .ok (.iconst 1, 1) := by decide +kernel
theorem dX6_key_113 : decode cX6_key 113 = .ok (.iadd, 1) := by decide +kernel
theorem dX6_key_114 : decode cX6_key 114 = .ok (.iastore, 1) := by decide +kernel
theorem dX6_key_115 : decode cX6_key 115 = .ok (.aload_n 0, 1) := by decide +kernel
theorem dX6_key_116 : decode cX6_key 116 = .ok (.getfield 7, 3) := by decide +kernel
theorem dX6_key_119 : decode cX6_key 119 = .ok (.bipush 7, 2) := by decide +kernel
theorem dX6_key_121 : decode cX6_key 121 = .ok (.dup2, 1) := by decide +kernel
theorem dX6_key_122 : decode cX6_key 122 = .ok (.iaload, 1) := by decide +kernel
theorem dX6_key_123 : decode cX6_key 123 = .ok (.iconst 1, 1) := by decide +kernel
theorem dX6_key_124 : decode cX6_key 124 = .ok (.isub, 1) := by decide +kernel
theorem dX6_key_125 : decode cX6_key 125 = .ok (.iastore, 1) := by decide +kernel
theorem dX6_key_126 : decode cX6_key 126 = .ok (.aload_n 0, 1) := by decide +kernel
theorem dX6_key_127 : decode cX6_key 127 = .ok (.getfield 7, 3) := by decide +kernel
theorem dX6_key_130 : decode cX6_key 130 = .ok (.bipush 7, 2) := by decide +kernel
theorem dX6_key_132 : decode cX6_key 132 = .ok (.iaload, 1) := by decide +kernel
theorem dX6_key_133 : decode cX6_key 133 = .ok (.ireturn, 1) := by decide +kernel
theorem dX6_pinsIn_0 : decode cX6_pinsIn 0 = .ok (.iconst 0, 1) := by decide +kernel
theorem dX6_pinsIn_1 : decode cX6_pinsIn 1 = .ok (.istore_n 1, 1) := by decide +kernel
theorem dX6_pinsIn_2 : decode cX6_pinsIn 2 = .ok (.iconst 0, 1) := by decide +kernel
theorem dX6_pinsIn_3 : decode cX6_pinsIn 3 = .ok (.istore_n 2, 1) := by decide +kernel
theorem dX6_pinsIn_4 : decode cX6_pinsIn 4 = .ok (.iload_n 2, 1) := by decide +kernel
theorem dX6_pinsIn_5 : decode cX6_pinsIn 5 = .ok (.bipush 20, 2) := by decide +kernel
theorem dX6_pinsIn_7 : decode cX6_pinsIn 7 = .ok (.if_icmp .ge 21, 3) := by decide +kernel
theorem dX6_pinsIn_10 : decode cX6_pinsIn 10 = .ok (.iload_n 1, 1) := by decide +kernel
theorem dX6_pinsIn_11 : decode cX6_pinsIn 11 = .ok (.aload_n 0, 1) := by decide +kernel
theorem dX6_pinsIn_12 : decode cX6_pinsIn 12 = .ok (.getfield 7, 3) := by decide +kernel
theorem dX6_pinsIn_15 : decode cX6_pinsIn 15 = .ok (.bipush 30, 2) := by decide +kernel
theorem dX6_pinsIn_17 : decode cX6_pinsIn 17 = .ok (.iload_n 2, 1) := by decide +kernel
theorem dX6_pinsIn_18 : decode cX6_pinsIn 18 = .ok (.iadd, 1) := by decide +kernel
theorem dX6_pinsIn_19 : decode cX6_pinsIn 19 = .ok (.iaload, 1) := by decide +kernel
theorem dX6_pinsIn_20 : decode cX6_pinsIn 20 = .ok (.iadd, 1) := by decide +kernel
theorem dX6_pinsIn_21 : decode cX6_pinsIn 21 = .ok (.istore_n 1, 1) := by decide +kernel
theorem dX6_pinsIn_22 : decode cX6_pinsIn 22 = .ok (.iinc 2 1, 3) := by decide +kernel
theorem dX6_pinsIn_25 : decode cX6_pinsIn 25 = .ok (.goto (-21), 3) := by decide +kernel
theorem dX6_pinsIn_28 : decode cX6_pinsIn 28 = .ok (.iload_n 1, 1) := by decide +kernel
theorem dX6_pinsIn_29 : decode cX6_pinsIn 29 = .ok (.ireturn, 1) := by decide +kernel
theorem dX6_songHere_0 : decode cX6_songHere 0 = .ok (.iconst 2, 1) := by decide +kernel
theorem dX6_songHere_1 : decode cX6_songHere 1 = .ok (.aload_n 0, 1) := by decide +kernel
theorem dX6_songHere_2 : decode cX6_songHere 2 = .ok (.getfield 7, 3) := by decide +kernel
theorem dX6_songHere_5 : decode cX6_songHere 5 = .ok (.iconst 1, 1) := by decide +kernel
theorem dX6_songHere_6 : decode cX6_songHere 6 = .ok (.iaload, 1) := by decide +kernel
theorem dX6_songHere_7 : decode cX6_songHere 7 = .ok (.imul, 1) := by decide +kernel
theorem dX6_songHere_8 : decode cX6_songHere 8 = .ok (.aload_n 0, 1) := by decide +kernel
theorem dX6_songHere_9 : decode cX6_songHere 9 = .ok (.getfield 7, 3) := by decide +kernel
theorem dX6_songHere_12 : decode cX6_songHere 12 = .ok (.iconst 2, 1) := by decide +kernel
theorem dX6_songHere_13 : decode cX6_songHere 13 = .ok (.iaload, 1) := by decide +kernel
theorem dX6_songHere_14 : decode cX6_songHere 14 = .ok (.iconst 1, 1) := by decide +kernel
theorem dX6_songHere_15 : decode cX6_songHere 15 = .ok (.if_icmp .ne 7, 3) := by decide +kernel
theorem dX6_songHere_18 : decode cX6_songHere 18 = .ok (.iconst 0, 1) := by decide +kernel
theorem dX6_songHere_19 : decode cX6_songHere 19 = .ok (.goto 4, 3) := by decide +kernel
theorem dX6_songHere_22 : decode cX6_songHere 22 = .ok (.iconst 1, 1) := by decide +kernel
theorem dX6_songHere_23 : decode cX6_songHere 23 = .ok (.iadd, 1) := by decide +kernel
theorem dX6_songHere_24 : decode cX6_songHere 24 = .ok (.ireturn, 1) := by decide +kernel
theorem dX6_does_0 : decode cX6_does 0 = .ok (.aload_n 0, 1) := by decide +kernel
theorem dX6_does_1 : decode cX6_does 1 = .ok (.getfield 7, 3) := by decide +kernel
theorem dX6_does_4 : decode cX6_does 4 = .ok (.iconst 3, 1) := by decide +kernel
theorem dX6_does_5 : decode cX6_does 5 = .ok (.iload_n 1, 1) := by decide +kernel
theorem dX6_does_6 : decode cX6_does 6 = .ok (.iastore, 1) := by decide +kernel
theorem dX6_does_7 : decode cX6_does 7 = .ok (.aload_n 0, 1) := by decide +kernel
theorem dX6_does_8 : decode cX6_does 8 = .ok (.getfield 7, 3) := by decide +kernel
theorem dX6_does_11 : decode cX6_does 11 = .ok (.iconst 4, 1) := by decide +kernel
theorem dX6_does_12 : decode cX6_does 12 = .ok (.iload_n 2, 1) := by decide +kernel
theorem dX6_does_13 : decode cX6_does 13 = .ok (.iastore, 1) := by decide +kernel
theorem dX6_does_14 : decode cX6_does 14 = .ok (.return_, 1) := by decide +kernel
theorem dX6_goOn_0 : decode cX6_goOn 0 = .ok (.aload_n 0, 1) := by decide +kernel
theorem dX6_goOn_1 : decode cX6_goOn 1 = .ok (.invokevirtual 82, 3) := by decide +kernel
theorem dX6_goOn_4 : decode cX6_goOn 4 = .ok (.ifCond .ne 12, 3) := by decide +kernel
theorem dX6_goOn_7 : decode cX6_goOn 7 = .ok (.aload_n 0, 1) := by decide +kernel
theorem dX6_goOn_8 : decode cX6_goOn 8 = .ok (.iconst 0, 1) := by decide +kernel
theorem dX6_goOn_9 : decode cX6_goOn 9 = .ok (.iconst 0, 1) := by decide +kernel
theorem dX6_goOn_10 : decode cX6_goOn 10 = .ok (.invokevirtual 85, 3) := by decide +kernel
theorem dX6_goOn_13 : decode cX6_goOn 13 = .ok (.goto 51, 3) := by decide +kernel
theorem dX6_goOn_16 : decode cX6_goOn 16 = .ok (.aload_n 0, 1) := by decide +kernel
theorem dX6_goOn_17 : decode cX6_goOn 17 = .ok (.getfield 7, 3) := by decide +kernel
theorem dX6_goOn_20 : decode cX6_goOn 20 = .ok (.iconst 2, 1) := by decide +kernel
theorem dX6_goOn_21 : decode cX6_goOn 21 = .ok (.iaload, 1) := by decide +kernel
theorem dX6_goOn_22 : decode cX6_goOn 22 = .ok (.iconst 1, 1) := by decide +kernel
theorem dX6_goOn_23 : decode cX6_goOn 23 = .ok (.if_icmp .ne 17, 3) := by decide +kernel
theorem dX6_goOn_26 : decode cX6_goOn 26 = .ok (.aload_n 0, 1) := by decide +kernel
theorem dX6_goOn_27 : decode cX6_goOn 27 = .ok (.getfield 7, 3) := by decide +kernel
theorem dX6_goOn_30 : decode cX6_goOn 30 = .ok (.iconst 1, 1) := by decide +kernel
theorem dX6_goOn_31 : decode cX6_goOn 31 = .ok (.iaload, 1) := by decide +kernel
theorem dX6_goOn_32 : decode cX6_goOn 32 = .ok (.bipush 9, 2) := by decide +kernel
theorem dX6_goOn_34 : decode cX6_goOn 34 = .ok (.if_icmp .ne 24, 3) := by decide +kernel
theorem dX6_goOn_37 : decode cX6_goOn 37 = .ok (.goto 12, 3) := by decide +kernel
theorem dX6_goOn_40 : decode cX6_goOn 40 = .ok (.aload_n 0, 1) := by decide +kernel
theorem dX6_goOn_41 : decode cX6_goOn 41 = .ok (.getfield 7, 3) := by decide +kernel
theorem dX6_goOn_44 : decode cX6_goOn 44 = .ok (.iconst 1, 1) := by decide +kernel
theorem dX6_goOn_45 : decode cX6_goOn 45 = .ok (.iaload, 1) := by decide +kernel
theorem dX6_goOn_46 : decode cX6_goOn 46 = .ok (.ifCond .ne 12, 3) := by decide +kernel
theorem dX6_goOn_49 : decode cX6_goOn 49 = .ok (.aload_n 0, 1) := by decide +kernel
theorem dX6_goOn_50 : decode cX6_goOn 50 = .ok (.iconst 2, 1) := by decide +kernel
theorem dX6_goOn_51 : decode cX6_goOn 51 = .ok (.iconst 2, 1) := by decide +kernel
theorem dX6_goOn_52 : decode cX6_goOn 52 = .ok (.invokevirtual 85, 3) := by decide +kernel
theorem dX6_goOn_55 : decode cX6_goOn 55 = .ok (.goto 9, 3) := by decide +kernel
theorem dX6_goOn_58 : decode cX6_goOn 58 = .ok (.aload_n 0, 1) := by decide +kernel
theorem dX6_goOn_59 : decode cX6_goOn 59 = .ok (.iconst 1, 1) := by decide +kernel
theorem dX6_goOn_60 : decode cX6_goOn 60 = .ok (.iconst 3, 1) := by decide +kernel
theorem dX6_goOn_61 : decode cX6_goOn 61 = .ok (.invokevirtual 85, 3) := by decide +kernel
theorem dX6_goOn_64 : decode cX6_goOn 64 = .ok (.return_, 1) := by decide +kernel
theorem dX6_look_0 : decode cX6_look 0 = .ok (.aload_n 0, 1) := by decide +kernel
theorem dX6_look_1 : decode cX6_look 1 = .ok (.invokevirtual 89, 3) := by decide +kernel
theorem dX6_look_4 : decode cX6_look 4 = .ok (.istore_n 1, 1) := by decide +kernel
theorem dX6_look_5 : decode cX6_look 5 = .ok (.aload_n 0, 1) := by decide +kernel
theorem dX6_look_6 : decode cX6_look 6 = .ok (.getfield 7, 3) := by decide +kernel
theorem dX6_look_9 : decode cX6_look 9 = .ok (.bipush 30, 2) := by decide +kernel
theorem dX6_look_11 : decode cX6_look 11 = .ok (.iload_n 1, 1) := by decide +kernel
theorem dX6_look_12 : decode cX6_look 12 = .ok (.iadd, 1) := by decide +kernel
theorem dX6_look_13 : decode cX6_look 13 = .ok (.iaload, 1) := by decide +kernel
theorem dX6_look_14 : decode cX6_look 14 = .ok (.iconst 1, 1) := by decide +kernel
theorem dX6_look_15 : decode cX6_look 15 = .ok (.if_icmp .ne 7, 3) := by decide +kernel
theorem dX6_look_18 : decode cX6_look 18 = .ok (.iconst 1, 1) := by decide +kernel
theorem dX6_look_19 : decode cX6_look 19 = .ok (.goto 4, 3) := by decide +kernel
theorem dX6_look_22 : decode cX6_look 22 = .ok (.iconst 0, 1) := by decide +kernel
theorem dX6_look_23 : decode cX6_look 23 = .ok (.istore_n 2, 1) := by decide +kernel
theorem dX6_look_24 : decode cX6_look 24 = .ok (.aload_n 0, 1) := by decide +kernel
theorem dX6_look_25 : decode cX6_look 25 = .ok (.getfield 7, 3) := by decide +kernel
theorem dX6_look_28 : decode cX6_look 28 = .ok (.bipush 30, 2) := by decide +kernel
theorem dX6_look_30 : decode cX6_look 30 = .ok (.iload_n 1, 1) := by decide +kernel
theorem dX6_look_31 : decode cX6_look 31 = .ok (.iadd, 1) := by decide +kernel
theorem dX6_look_32 : decode cX6_look 32 = .ok (.aload_n 0, 1) := by decide +kernel
theorem dX6_look_33 : decode cX6_look 33 = .ok (.getfield 7, 3) := by decide +kernel
theorem dX6_look_36 : decode cX6_look 36 = .ok (.bipush 50, 2) := by decide +kernel
theorem dX6_look_38 : decode cX6_look 38 = .ok (.iload_n 1, 1) := by decide +kernel
theorem dX6_look_39 : decode cX6_look 39 = .ok (.iadd, 1) := by decide +kernel
theorem dX6_look_40 : decode cX6_look 40 = .ok (.iaload, 1) := by decide +kernel
theorem dX6_look_41 : decode cX6_look 41 = .ok (.ifCond .ne 7, 3) := by decide +kernel
theorem dX6_look_44 : decode cX6_look 44 = .ok (.iconst 0, 1) := by decide +kernel
theorem dX6_look_45 : decode cX6_look 45 = .ok (.goto 12, 3) := by decide +kernel
theorem dX6_look_48 : decode cX6_look 48 = .ok (.aload_n 0, 1) := by decide +kernel
theorem dX6_look_49 : decode cX6_look 49 = .ok (.getfield 7, 3) := by decide +kernel
theorem dX6_look_52 : decode cX6_look 52 = .ok (.bipush 30, 2) := by decide +kernel
theorem dX6_look_54 : decode cX6_look 54 = .ok (.iload_n 1, 1) := by decide +kernel
theorem dX6_look_55 : decode cX6_look 55 = .ok (.iadd, 1) := by decide +kernel
theorem dX6_look_56 : decode cX6_look 56 = .ok (.iaload, 1) := by decide +kernel
theorem dX6_look_57 : decode cX6_look 57 = .ok (.iastore, 1) := by decide +kernel
theorem dX6_look_58 : decode cX6_look 58 = .ok (.iload_n 2, 1) := by decide +kernel
theorem dX6_look_59 : decode cX6_look 59 = .ok (.ifCond .eq 27, 3) := by decide +kernel
theorem dX6_look_62 : decode cX6_look 62 = .ok (.aload_n 0, 1) := by decide +kernel
theorem dX6_look_63 : decode cX6_look 63 = .ok (.getfield 7, 3) := by decide +kernel
theorem dX6_look_66 : decode cX6_look 66 = .ok (.bipush 20, 2) := by decide +kernel
theorem dX6_look_68 : decode cX6_look 68 = .ok (.aload_n 0, 1) := by decide +kernel
theorem dX6_look_69 : decode cX6_look 69 = .ok (.getfield 7, 3) := by decide +kernel
theorem dX6_look_72 : decode cX6_look 72 = .ok (.iconst 1, 1) := by decide +kernel
theorem dX6_look_73 : decode cX6_look 73 = .ok (.iaload, 1) := by decide +kernel
theorem dX6_look_74 : decode cX6_look 74 = .ok (.iadd, 1) := by decide +kernel
theorem dX6_look_75 : decode cX6_look 75 = .ok (.iaload, 1) := by decide +kernel
theorem dX6_look_76 : decode cX6_look 76 = .ok (.ifCond .lt 10, 3) := by decide +kernel
theorem dX6_look_79 : decode cX6_look 79 = .ok (.aload_n 0, 1) := by decide +kernel
theorem dX6_look_80 : decode cX6_look 80 = .ok (.iconst 3, 1) := by decide +kernel
theorem dX6_look_81 : decode cX6_look 81 = .ok (.iconst 4, 1) := by decide +kernel
theorem dX6_look_82 : decode cX6_look 82 = .ok (.invokevirtual 85, 3) := by decide +kernel
theorem dX6_look_85 : decode cX6_look 85 = .ok (.return_, 1) := by decide +kernel
theorem dX6_look_86 : decode cX6_look 86 = .ok (.aload_n 0, 1) := by decide +kernel
theorem dX6_look_87 : decode cX6_look 87 = .ok (.getfield 7, 3) := by decide +kernel
theorem dX6_look_90 : decode cX6_look 90 = .ok (.bipush 6, 2) := by decide +kernel
theorem dX6_look_92 : decode cX6_look 92 = .ok (.dup2, 1) := by decide +kernel
theorem dX6_look_93 : decode cX6_look 93 = .ok (.iaload, 1) := by decide +kernel
theorem dX6_look_94 : decode cX6_look 94 = .ok (.iload_n 2, 1) := by decide +kernel
theorem dX6_look_95 : decode cX6_look 95 = .ok (.ifCond .eq 7, 3) := by decide +kernel
theorem dX6_look_98 : decode cX6_look 98 = .ok (.iconst 1, 1) := by decide +kernel
theorem dX6_look_99 : decode cX6_look 99 = .ok (.goto 4, 3) := by decide +kernel
theorem dX6_look_102 : decode cX6_look 102 = .ok (.iconst 0, 1) := by decide +kernel
theorem dX6_look_103 : decode cX6_look 103 = .ok (.iadd, 1) := by decide +kernel
theorem dX6_look_104 : decode cX6_look 104 = .ok (.iastore, 1) := by decide +kernel
theorem dX6_look_105 : decode cX6_look 105 = .ok (.aload_n 0, 1) := by decide +kernel
theorem dX6_look_106 : decode cX6_look 106 = .ok (.invokevirtual 92, 3) := by decide +kernel
theorem dX6_look_109 : decode cX6_look 109 = .ok (.return_, 1) := by decide +kernel
theorem dX6_play_0 : decode cX6_play 0 = .ok (.aload_n 0, 1) := by decide +kernel
theorem dX6_play_1 : decode cX6_play 1 = .ok (.invokevirtual 89, 3) := by decide +kernel
theorem dX6_play_4 : decode cX6_play 4 = .ok (.istore_n 1, 1) := by decide +kernel
theorem dX6_play_5 : decode cX6_play 5 = .ok (.iconst 2, 1) := by decide +kernel
theorem dX6_play_6 : decode cX6_play 6 = .ok (.aload_n 0, 1) := by decide +kernel
theorem dX6_play_7 : decode cX6_play 7 = .ok (.getfield 7, 3) := by decide +kernel
theorem dX6_play_10 : decode cX6_play 10 = .ok (.bipush 20, 2) := by decide +kernel
theorem dX6_play_12 : decode cX6_play 12 = .ok (.aload_n 0, 1) := by decide +kernel
theorem dX6_play_13 : decode cX6_play 13 = .ok (.getfield 7, 3) := by decide +kernel
theorem dX6_play_16 : decode cX6_play 16 = .ok (.iconst 1, 1) := by decide +kernel
theorem dX6_play_17 : decode cX6_play 17 = .ok (.iaload, 1) := by decide +kernel
theorem dX6_play_18 : decode cX6_play 18 = .ok (.iadd, 1) := by decide +kernel
theorem dX6_play_19 : decode cX6_play 19 = .ok (.iaload, 1) := by decide +kernel
theorem dX6_play_20 : decode cX6_play 20 = .ok (.imul, 1) := by decide +kernel
theorem dX6_play_21 : decode cX6_play 21 = .ok (.iload_n 1, 1) := by decide +kernel
theorem dX6_play_22 : decode cX6_play 22 = .ok (.iconst 2, 1) := by decide +kernel
theorem dX6_play_23 : decode cX6_play 23 = .ok (.irem, 1) := by decide +kernel
theorem dX6_play_24 : decode cX6_play 24 = .ok (.iadd, 1) := by decide +kernel
theorem dX6_play_25 : decode cX6_play 25 = .ok (.istore_n 2, 1) := by decide +kernel
theorem dX6_play_26 : decode cX6_play 26 = .ok (.aload_n 0, 1) := by decide +kernel
theorem dX6_play_27 : decode cX6_play 27 = .ok (.getfield 7, 3) := by decide +kernel
theorem dX6_play_30 : decode cX6_play 30 = .ok (.bipush 70, 2) := by decide +kernel
theorem dX6_play_32 : decode cX6_play 32 = .ok (.iload_n 1, 1) := by decide +kernel
theorem dX6_play_33 : decode cX6_play 33 = .ok (.iadd, 1) := by decide +kernel
theorem dX6_play_34 : decode cX6_play 34 = .ok (.aload_n 0, 1) := by decide +kernel
theorem dX6_play_35 : decode cX6_play 35 = .ok (.getfield 7, 3) := by decide +kernel
theorem dX6_play_38 : decode cX6_play 38 = .ok (.bipush 70, 2) := by decide +kernel
theorem dX6_play_40 : decode cX6_play 40 = .ok (.iload_n 1, 1) := by decide +kernel
theorem dX6_play_41 : decode cX6_play 41 = .ok (.iadd, 1) := by decide +kernel
theorem dX6_play_42 : decode cX6_play 42 = .ok (.iaload, 1) := by decide +kernel
theorem dX6_play_43 : decode cX6_play 43 = .ok (.iconst 1, 1) := by decide +kernel
theorem dX6_play_44 : decode cX6_play 44 = .ok (.iadd, 1) := by decide +kernel
theorem dX6_play_45 : decode cX6_play 45 = .ok (.bipush 100, 2) := by decide +kernel
theorem dX6_play_47 : decode cX6_play 47 = .ok (.irem, 1) := by decide +kernel
theorem dX6_play_48 : decode cX6_play 48 = .ok (.iastore, 1) := by decide +kernel
theorem dX6_play_49 : decode cX6_play 49 = .ok (.aload_n 0, 1) := by decide +kernel
theorem dX6_play_50 : decode cX6_play 50 = .ok (.getfield 7, 3) := by decide +kernel
theorem dX6_play_53 : decode cX6_play 53 = .ok (.bipush 122, 2) := by decide +kernel
theorem dX6_play_55 : decode cX6_play 55 = .ok (.iload_n 2, 1) := by decide +kernel
theorem dX6_play_56 : decode cX6_play 56 = .ok (.iadd, 1) := by decide +kernel
theorem dX6_play_57 : decode cX6_play 57 = .ok (.aload_n 0, 1) := by decide +kernel
theorem dX6_play_58 : decode cX6_play 58 = .ok (.getfield 7, 3) := by decide +kernel
theorem dX6_play_61 : decode cX6_play 61 = .ok (.bipush 122, 2) := by decide +kernel
theorem dX6_play_63 : decode cX6_play 63 = .ok (.iload_n 2, 1) := by decide +kernel
theorem dX6_play_64 : decode cX6_play 64 = .ok (.iadd, 1) := by decide +kernel
theorem dX6_play_65 : decode cX6_play 65 = .ok (.iaload, 1) := by decide +kernel
theorem dX6_play_66 : decode cX6_play 66 = .ok (.bipush 99, 2) := by decide +kernel
theorem dX6_play_68 : decode cX6_play 68 = .ok (.if_icmp .ge 17, 3) := by decide +kernel
theorem dX6_play_71 : decode cX6_play 71 = .ok (.aload_n 0, 1) := by decide +kernel
theorem dX6_play_72 : decode cX6_play 72 = .ok (.getfield 7, 3) := by decide +kernel
theorem dX6_play_75 : decode cX6_play 75 = .ok (.bipush 122, 2) := by decide +kernel
theorem dX6_play_77 : decode cX6_play 77 = .ok (.iload_n 2, 1) := by decide +kernel
theorem dX6_play_78 : decode cX6_play 78 = .ok (.iadd, 1) := by decide +kernel
theorem dX6_play_79 : decode cX6_play 79 = .ok (.iaload, 1) := by decide +kernel
theorem dX6_play_80 : decode cX6_play 80 = .ok (.iconst 1, 1) := by decide +kernel
theorem dX6_play_81 : decode cX6_play 81 = .ok (.iadd, 1) := by decide +kernel
theorem dX6_play_82 : decode cX6_play 82 = .ok (.goto 5, 3) := by decide +kernel
theorem dX6_play_85 : decode cX6_play 85 = .ok (.bipush 99, 2) := by decide +kernel
theorem dX6_play_87 : decode cX6_play 87 = .ok (.iastore, 1) := by decide +kernel
theorem dX6_play_88 : decode cX6_play 88 = .ok (.aload_n 0, 1) := by decide +kernel
theorem dX6_play_89 : decode cX6_play 89 = .ok (.getfield 7, 3) := by decide +kernel
theorem dX6_play_92 : decode cX6_play 92 = .ok (.iconst 5, 1) := by decide +kernel
theorem dX6_play_93 : decode cX6_play 93 = .ok (.dup2, 1) := by decide +kernel
theorem dX6_play_94 : decode cX6_play 94 = .ok (.iaload, 1) := by decide +kernel
theorem dX6_play_95 : decode cX6_play 95 = .ok (.iconst 1, 1) := by decide +kernel
theorem dX6_play_96 : decode cX6_play 96 = .ok (.iadd, 1) := by decide +kernel
theorem dX6_play_97 : decode cX6_play 97 = .ok (.iastore, 1) := by decide +kernel
theorem dX6_play_98 : decode cX6_play 98 = .ok (.aload_n 0, 1) := by decide +kernel
theorem dX6_play_99 : decode cX6_play 99 = .ok (.iconst 4, 1) := by decide +kernel
theorem dX6_play_100 : decode cX6_play 100 = .ok (.aload_n 0, 1) := by decide +kernel
theorem dX6_play_101 : decode cX6_play 101 = .ok (.getfield 7, 3) := by decide +kernel
theorem dX6_play_104 : decode cX6_play 104 = .ok (.bipush 122, 2) := by decide +kernel
theorem dX6_play_106 : decode cX6_play 106 = .ok (.iload_n 2, 1) := by decide +kernel
theorem dX6_play_107 : decode cX6_play 107 = .ok (.iadd, 1) := by decide +kernel
theorem dX6_play_108 : decode cX6_play 108 = .ok (.iaload, 1) := by decide +kernel
theorem dX6_play_109 : decode cX6_play 109 = .ok (.aload_n 0, 1) := by decide +kernel
theorem dX6_play_110 : decode cX6_play 110 = .ok (.getfield 7, 3) := by decide +kernel
theorem dX6_play_113 : decode cX6_play 113 = .ok (.bipush 15, 2) := by decide +kernel
theorem dX6_play_115 : decode cX6_play 115 = .ok (.iaload, 1) := by decide +kernel
theorem dX6_play_116 : decode cX6_play 116 = .ok (.if_icmp .le 17, 3) := by decide +kernel
theorem dX6_play_119 : decode cX6_play 119 = .ok (.iconst 2, 1) := by decide +kernel
theorem dX6_play_120 : decode cX6_play 120 = .ok (.aload_n 0, 1) := by decide +kernel
theorem dX6_play_121 : decode cX6_play 121 = .ok (.getfield 7, 3) := by decide +kernel
theorem dX6_play_124 : decode cX6_play 124 = .ok (.bipush 90, 2) := by decide +kernel
theorem dX6_play_126 : decode cX6_play 126 = .ok (.iload_n 2, 1) := by decide +kernel
theorem dX6_play_127 : decode cX6_play 127 = .ok (.iadd, 1) := by decide +kernel
theorem dX6_play_128 : decode cX6_play 128 = .ok (.iaload, 1) := by decide +kernel
theorem dX6_play_129 : decode cX6_play 129 = .ok (.imul, 1) := by decide +kernel
theorem dX6_play_130 : decode cX6_play 130 = .ok (.goto 12, 3) := by decide +kernel
theorem dX6_play_133 : decode cX6_play 133 = .ok (.aload_n 0, 1) := by decide +kernel
theorem dX6_play_134 : decode cX6_play 134 = .ok (.getfield 7, 3) := by decide +kernel
theorem dX6_play_137 : decode cX6_play 137 = .ok (.bipush 90, 2) := by decide +kernel
theorem dX6_play_139 : decode cX6_play 139 = .ok (.iload_n 2, 1) := by decide +kernel
theorem dX6_play_140 : decode cX6_play 140 = .ok (.iadd, 1) := by decide +kernel
theorem dX6_play_141 : decode cX6_play 141 = .ok (.iaload, 1) := by decide +kernel
theorem dX6_play_142 : decode cX6_play 142 = .ok (.invokevirtual 85, 3) := by decide +kernel
theorem dX6_play_145 : decode cX6_play 145 = .ok (.return_, 1) := by decide +kernel
theorem dX6_tick_0 : decode cX6_tick 0 = .ok (.aload_n 0, 1) := by decide +kernel
theorem dX6_tick_1 : decode cX6_tick 1 = .ok (.getfield 7, 3) := by decide +kernel
theorem dX6_tick_4 : decode cX6_tick 4 = .ok (.iconst 0, 1) := by decide +kernel
theorem dX6_tick_5 : decode cX6_tick 5 = .ok (.dup2, 1) := by decide +kernel
theorem dX6_tick_6 : decode cX6_tick 6 = .ok (.iaload, 1) := by decide +kernel
theorem dX6_tick_7 : decode cX6_tick 7 = .ok (.iconst 1, 1) := by decide +kernel
theorem dX6_tick_8 : decode cX6_tick 8 = .ok (.iadd, 1) := by decide +kernel
theorem dX6_tick_9 : decode cX6_tick 9 = .ok (.iastore, 1) := by decide +kernel
theorem dX6_tick_10 : decode cX6_tick 10 = .ok (.aload_n 0, 1) := by decide +kernel
theorem dX6_tick_11 : decode cX6_tick 11 = .ok (.getfield 7, 3) := by decide +kernel
theorem dX6_tick_14 : decode cX6_tick 14 = .ok (.iconst 3, 1) := by decide +kernel
theorem dX6_tick_15 : decode cX6_tick 15 = .ok (.iaload, 1) := by decide +kernel
theorem dX6_tick_16 : decode cX6_tick 16 = .ok (.ifCond .ne 15, 3) := by decide +kernel
theorem dX6_tick_19 : decode cX6_tick 19 = .ok (.aload_n 0, 1) := by decide +kernel
theorem dX6_tick_20 : decode cX6_tick 20 = .ok (.invokevirtual 82, 3) := by decide +kernel
theorem dX6_tick_23 : decode cX6_tick 23 = .ok (.ifCond .le 7, 3) := by decide +kernel
theorem dX6_tick_26 : decode cX6_tick 26 = .ok (.aload_n 0, 1) := by decide +kernel
theorem dX6_tick_27 : decode cX6_tick 27 = .ok (.invokevirtual 95, 3) := by decide +kernel
theorem dX6_tick_30 : decode cX6_tick 30 = .ok (.return_, 1) := by decide +kernel
theorem dX6_tick_31 : decode cX6_tick 31 = .ok (.aload_n 0, 1) := by decide +kernel
theorem dX6_tick_32 : decode cX6_tick 32 = .ok (.getfield 7, 3) := by decide +kernel
theorem dX6_tick_35 : decode cX6_tick 35 = .ok (.iconst 4, 1) := by decide +kernel
theorem dX6_tick_36 : decode cX6_tick 36 = .ok (.dup2, 1) := by decide +kernel
theorem dX6_tick_37 : decode cX6_tick 37 = .ok (.iaload, 1) := by decide +kernel
theorem dX6_tick_38 : decode cX6_tick 38 = .ok (.iconst 1, 1) := by decide +kernel
theorem dX6_tick_39 : decode cX6_tick 39 = .ok (.isub, 1) := by decide +kernel
theorem dX6_tick_40 : decode cX6_tick 40 = .ok (.iastore, 1) := by decide +kernel
theorem dX6_tick_41 : decode cX6_tick 41 = .ok (.aload_n 0, 1) := by decide +kernel
theorem dX6_tick_42 : decode cX6_tick 42 = .ok (.getfield 7, 3) := by decide +kernel
theorem dX6_tick_45 : decode cX6_tick 45 = .ok (.iconst 4, 1) := by decide +kernel
theorem dX6_tick_46 : decode cX6_tick 46 = .ok (.iaload, 1) := by decide +kernel
theorem dX6_tick_47 : decode cX6_tick 47 = .ok (.ifCond .le 4, 3) := by decide +kernel
theorem dX6_tick_50 : decode cX6_tick 50 = .ok (.return_, 1) := by decide +kernel
theorem dX6_tick_51 : decode cX6_tick 51 = .ok (.aload_n 0, 1) := by decide +kernel
theorem dX6_tick_52 : decode cX6_tick 52 = .ok (.getfield 7, 3) := by decide +kernel
theorem dX6_tick_55 : decode cX6_tick 55 = .ok (.iconst 3, 1) := by decide +kernel
theorem dX6_tick_56 : decode cX6_tick 56 = .ok (.iaload, 1) := by decide +kernel
theorem dX6_tick_57 : decode cX6_tick 57 = .ok (.tableswitch 99 1 4 #[31, 62, 83, 90], 31) := by decide +kernel
theorem dX6_tick_88 : decode cX6_tick 88 = .ok (.aload_n 0, 1) := by decide +kernel
theorem dX6_tick_89 : decode cX6_tick 89 = .ok (.getfield 7, 3) := by decide +kernel
theorem dX6_tick_92 : decode cX6_tick 92 = .ok (.iconst 1, 1) := by decide +kernel
theorem dX6_tick_93 : decode cX6_tick 93 = .ok (.dup2, 1) := by decide +kernel
theorem dX6_tick_94 : decode cX6_tick 94 = .ok (.iaload, 1) := by decide +kernel
theorem dX6_tick_95 : decode cX6_tick 95 = .ok (.aload_n 0, 1) := by decide +kernel
theorem dX6_tick_96 : decode cX6_tick 96 = .ok (.getfield 7, 3) := by decide +kernel
theorem dX6_tick_99 : decode cX6_tick 99 = .ok (.iconst 2, 1) := by decide +kernel
theorem dX6_tick_100 : decode cX6_tick 100 = .ok (.iaload, 1) := by decide +kernel
theorem dX6_tick_101 : decode cX6_tick 101 = .ok (.iconst 1, 1) := by decide +kernel
theorem dX6_tick_102 : decode cX6_tick 102 = .ok (.if_icmp .ne 7, 3) := by decide +kernel
theorem dX6_tick_105 : decode cX6_tick 105 = .ok (.iconst 1, 1) := by decide +kernel
theorem dX6_tick_106 : decode cX6_tick 106 = .ok (.goto 4, 3) := by decide +kernel
theorem dX6_tick_109 : decode cX6_tick 109 = .ok (.iconst (-1), 1) := by decide +kernel
theorem dX6_tick_110 : decode cX6_tick 110 = .ok (.iadd, 1) := by decide +kernel
theorem dX6_tick_111 : decode cX6_tick 111 = .ok (.iastore, 1) := by decide +kernel
theorem dX6_tick_112 : decode cX6_tick 112 = .ok (.aload_n 0, 1) := by decide +kernel
theorem dX6_tick_113 : decode cX6_tick 113 = .ok (.invokevirtual 95, 3) := by decide +kernel
theorem dX6_tick_116 : decode cX6_tick 116 = .ok (.goto 44, 3) := by decide +kernel
theorem dX6_tick_119 : decode cX6_tick 119 = .ok (.aload_n 0, 1) := by decide +kernel
theorem dX6_tick_120 : decode cX6_tick 120 = .ok (.getfield 7, 3) := by decide +kernel
theorem dX6_tick_123 : decode cX6_tick 123 = .ok (.iconst 2, 1) := by decide +kernel
theorem dX6_tick_124 : decode cX6_tick 124 = .ok (.iconst 1, 1) := by decide +kernel
theorem dX6_tick_125 : decode cX6_tick 125 = .ok (.aload_n 0, 1) := by decide +kernel
theorem dX6_tick_126 : decode cX6_tick 126 = .ok (.getfield 7, 3) := by decide +kernel
theorem dX6_tick_129 : decode cX6_tick 129 = .ok (.iconst 2, 1) := by decide +kernel
theorem dX6_tick_130 : decode cX6_tick 130 = .ok (.iaload, 1) := by decide +kernel
theorem dX6_tick_131 : decode cX6_tick 131 = .ok (.isub, 1) := by decide +kernel
theorem dX6_tick_132 : decode cX6_tick 132 = .ok (.iastore, 1) := by decide +kernel
theorem dX6_tick_133 : decode cX6_tick 133 = .ok (.aload_n 0, 1) := by decide +kernel
theorem dX6_tick_134 : decode cX6_tick 134 = .ok (.invokevirtual 95, 3) := by decide +kernel
theorem dX6_tick_137 : decode cX6_tick 137 = .ok (.goto 23, 3) := by decide +kernel
theorem dX6_tick_140 : decode cX6_tick 140 = .ok (.aload_n 0, 1) := by decide +kernel
theorem dX6_tick_141 : decode cX6_tick 141 = .ok (.invokevirtual 98, 3) := by decide +kernel
theorem dX6_tick_144 : decode cX6_tick 144 = .ok (.goto 16, 3) := by decide +kernel
theorem dX6_tick_147 : decode cX6_tick 147 = .ok (.aload_n 0, 1) := by decide +kernel
theorem dX6_tick_148 : decode cX6_tick 148 = .ok (.iconst 5, 1) := by decide +kernel
theorem dX6_tick_149 : decode cX6_tick 149 = .ok (.iconst 4, 1) := by decide +kernel
theorem dX6_tick_150 : decode cX6_tick 150 = .ok (.invokevirtual 85, 3) := by decide +kernel
theorem dX6_tick_153 : decode cX6_tick 153 = .ok (.goto 7, 3) := by decide +kernel
theorem dX6_tick_156 : decode cX6_tick 156 = .ok (.aload_n 0, 1) := by decide +kernel
theorem dX6_tick_157 : decode cX6_tick 157 = .ok (.invokevirtual 92, 3) := by decide +kernel
theorem dX6_tick_160 : decode cX6_tick 160 = .ok (.return_, 1) := by decide +kernel
theorem dX6_ticks_0 : decode cX6_ticks 0 = .ok (.iload_n 1, 1) := by decide +kernel
theorem dX6_ticks_1 : decode cX6_ticks 1 = .ok (.i2l, 1) := by decide +kernel
theorem dX6_ticks_2 : decode cX6_ticks 2 = .ok (.lconst 1, 1) := by decide +kernel
theorem dX6_ticks_3 : decode cX6_ticks 3 = .ok (.ldc2_w 101, 3) := by decide +kernel
theorem dX6_ticks_6 : decode cX6_ticks 6 = .ok (.invokestatic 43, 3) := by decide +kernel
theorem dX6_ticks_9 : decode cX6_ticks 9 = .ok (.ifCond .ne 5, 3) := by decide +kernel
theorem dX6_ticks_12 : decode cX6_ticks 12 = .ok (.iconst (-1), 1) := by decide +kernel
theorem dX6_ticks_13 : decode cX6_ticks 13 = .ok (.ireturn, 1) := by decide +kernel
theorem dX6_ticks_14 : decode cX6_ticks 14 = .ok (.aload_n 0, 1) := by decide +kernel
theorem dX6_ticks_15 : decode cX6_ticks 15 = .ok (.getfield 7, 3) := by decide +kernel
theorem dX6_ticks_18 : decode cX6_ticks 18 = .ok (.iconst 0, 1) := by decide +kernel
theorem dX6_ticks_19 : decode cX6_ticks 19 = .ok (.iaload, 1) := by decide +kernel
theorem dX6_ticks_20 : decode cX6_ticks 20 = .ok (.iload_n 1, 1) := by decide +kernel
theorem dX6_ticks_21 : decode cX6_ticks 21 = .ok (.iadd, 1) := by decide +kernel
theorem dX6_ticks_22 : decode cX6_ticks 22 = .ok (.ldc 103, 2) := by decide +kernel
theorem dX6_ticks_24 : decode cX6_ticks 24 = .ok (.if_icmp .le 6, 3) := by decide +kernel
theorem dX6_ticks_27 : decode cX6_ticks 27 = .ok (.bipush (-3), 2) := by decide +kernel
theorem dX6_ticks_29 : decode cX6_ticks 29 = .ok (.ireturn, 1) := by decide +kernel
theorem dX6_ticks_30 : decode cX6_ticks 30 = .ok (.iconst 0, 1) := by decide +kernel
theorem dX6_ticks_31 : decode cX6_ticks 31 = .ok (.istore_n 2, 1) := by decide +kernel
theorem dX6_ticks_32 : decode cX6_ticks 32 = .ok (.iload_n 2, 1) := by decide +kernel
theorem dX6_ticks_33 : decode cX6_ticks 33 = .ok (.iload_n 1, 1) := by decide +kernel
theorem dX6_ticks_34 : decode cX6_ticks 34 = .ok (.if_icmp .ge 13, 3) := by decide +kernel
theorem dX6_ticks_37 : decode cX6_ticks 37 = .ok (.aload_n 0, 1) := by decide +kernel
theorem dX6_ticks_38 : decode cX6_ticks 38 = .ok (.invokevirtual 104, 3) := by decide +kernel
theorem dX6_ticks_41 : decode cX6_ticks 41 = .ok (.iinc 2 1, 3) := by decide +kernel
theorem dX6_ticks_44 : decode cX6_ticks 44 = .ok (.goto (-12), 3) := by decide +kernel
theorem dX6_ticks_47 : decode cX6_ticks 47 = .ok (.aload_n 0, 1) := by decide +kernel
theorem dX6_ticks_48 : decode cX6_ticks 48 = .ok (.getfield 7, 3) := by decide +kernel
theorem dX6_ticks_51 : decode cX6_ticks 51 = .ok (.iconst 0, 1) := by decide +kernel
theorem dX6_ticks_52 : decode cX6_ticks 52 = .ok (.iaload, 1) := by decide +kernel
theorem dX6_ticks_53 : decode cX6_ticks 53 = .ok (.ireturn, 1) := by decide +kernel
theorem dX6_carriage_0 : decode cX6_carriage 0 = .ok (.iload_n 1, 1) := by decide +kernel
theorem dX6_carriage_1 : decode cX6_carriage 1 = .ok (.i2l, 1) := by decide +kernel
theorem dX6_carriage_2 : decode cX6_carriage 2 = .ok (.lconst 0, 1) := by decide +kernel
theorem dX6_carriage_3 : decode cX6_carriage 3 = .ok (.ldc2_w 107, 3) := by decide +kernel
theorem dX6_carriage_6 : decode cX6_carriage 6 = .ok (.invokestatic 43, 3) := by decide +kernel
theorem dX6_carriage_9 : decode cX6_carriage 9 = .ok (.ifCond .eq 14, 3) := by decide +kernel
theorem dX6_carriage_12 : decode cX6_carriage 12 = .ok (.aload_n 0, 1) := by decide +kernel
theorem dX6_carriage_13 : decode cX6_carriage 13 = .ok (.getfield 7, 3) := by decide +kernel
theorem dX6_carriage_16 : decode cX6_carriage 16 = .ok (.iconst 1, 1) := by decide +kernel
theorem dX6_carriage_17 : decode cX6_carriage 17 = .ok (.iload_n 1, 1) := by decide +kernel
theorem dX6_carriage_18 : decode cX6_carriage 18 = .ok (.iadd, 1) := by decide +kernel
theorem dX6_carriage_19 : decode cX6_carriage 19 = .ok (.iaload, 1) := by decide +kernel
theorem dX6_carriage_20 : decode cX6_carriage 20 = .ok (.goto 4, 3) := by decide +kernel
theorem dX6_carriage_23 : decode cX6_carriage 23 = .ok (.iconst (-1), 1) := by decide +kernel
theorem dX6_carriage_24 : decode cX6_carriage 24 = .ok (.ireturn, 1) := by decide +kernel
theorem dX6_count_0 : decode cX6_count 0 = .ok (.iload_n 1, 1) := by decide +kernel
theorem dX6_count_1 : decode cX6_count 1 = .ok (.tableswitch 148 0 8 #[51, 59, 64, 72, 80, 88, 95, 103, 110], 51) := by decide +kernel
theorem dX6_count_52 : decode cX6_count 52 = .ok (.aload_n 0, 1) := by decide +kernel
theorem dX6_count_53 : decode cX6_count 53 = .ok (.getfield 7, 3) := by decide +kernel
theorem dX6_count_56 : decode cX6_count 56 = .ok (.bipush 16, 2) := by decide +kernel
theorem dX6_count_58 : decode cX6_count 58 = .ok (.iaload, 1) := by decide +kernel
theorem dX6_count_59 : decode cX6_count 59 = .ok (.ireturn, 1) := by decide +kernel
theorem dX6_count_60 : decode cX6_count 60 = .ok (.aload_n 0, 1) := by decide +kernel
theorem dX6_count_61 : decode cX6_count 61 = .ok (.invokevirtual 82, 3) := by decide +kernel
theorem dX6_count_64 : decode cX6_count 64 = .ok (.ireturn, 1) := by decide +kernel
theorem dX6_count_65 : decode cX6_count 65 = .ok (.aload_n 0, 1) := by decide +kernel
theorem dX6_count_66 : decode cX6_count 66 = .ok (.getfield 7, 3) := by decide +kernel
theorem dX6_count_69 : decode cX6_count 69 = .ok (.bipush 7, 2) := by decide +kernel
theorem dX6_count_71 : decode cX6_count 71 = .ok (.iaload, 1) := by decide +kernel
theorem dX6_count_72 : decode cX6_count 72 = .ok (.ireturn, 1) := by decide +kernel
theorem dX6_count_73 : decode cX6_count 73 = .ok (.aload_n 0, 1) := by decide +kernel
theorem dX6_count_74 : decode cX6_count 74 = .ok (.getfield 7, 3) := by decide +kernel
theorem dX6_count_77 : decode cX6_count 77 = .ok (.bipush 8, 2) := by decide +kernel
theorem dX6_count_79 : decode cX6_count 79 = .ok (.iaload, 1) := by decide +kernel
theorem dX6_count_80 : decode cX6_count 80 = .ok (.ireturn, 1) := by decide +kernel
theorem dX6_count_81 : decode cX6_count 81 = .ok (.aload_n 0, 1) := by decide +kernel
theorem dX6_count_82 : decode cX6_count 82 = .ok (.getfield 7, 3) := by decide +kernel
theorem dX6_count_85 : decode cX6_count 85 = .ok (.bipush 10, 2) := by decide +kernel
theorem dX6_count_87 : decode cX6_count 87 = .ok (.iaload, 1) := by decide +kernel
theorem dX6_count_88 : decode cX6_count 88 = .ok (.ireturn, 1) := by decide +kernel
theorem dX6_count_89 : decode cX6_count 89 = .ok (.aload_n 0, 1) := by decide +kernel
theorem dX6_count_90 : decode cX6_count 90 = .ok (.getfield 7, 3) := by decide +kernel
theorem dX6_count_93 : decode cX6_count 93 = .ok (.iconst 5, 1) := by decide +kernel
theorem dX6_count_94 : decode cX6_count 94 = .ok (.iaload, 1) := by decide +kernel
theorem dX6_count_95 : decode cX6_count 95 = .ok (.ireturn, 1) := by decide +kernel
theorem dX6_count_96 : decode cX6_count 96 = .ok (.aload_n 0, 1) := by decide +kernel
theorem dX6_count_97 : decode cX6_count 97 = .ok (.getfield 7, 3) := by decide +kernel
theorem dX6_count_100 : decode cX6_count 100 = .ok (.bipush 6, 2) := by decide +kernel
theorem dX6_count_102 : decode cX6_count 102 = .ok (.iaload, 1) := by decide +kernel
theorem dX6_count_103 : decode cX6_count 103 = .ok (.ireturn, 1) := by decide +kernel
theorem dX6_count_104 : decode cX6_count 104 = .ok (.aload_n 0, 1) := by decide +kernel
theorem dX6_count_105 : decode cX6_count 105 = .ok (.getfield 7, 3) := by decide +kernel
theorem dX6_count_108 : decode cX6_count 108 = .ok (.iconst 0, 1) := by decide +kernel
theorem dX6_count_109 : decode cX6_count 109 = .ok (.iaload, 1) := by decide +kernel
theorem dX6_count_110 : decode cX6_count 110 = .ok (.ireturn, 1) := by decide +kernel
theorem dX6_count_111 : decode cX6_count 111 = .ok (.iconst 0, 1) := by decide +kernel
theorem dX6_count_112 : decode cX6_count 112 = .ok (.istore_n 2, 1) := by decide +kernel
theorem dX6_count_113 : decode cX6_count 113 = .ok (.iconst 0, 1) := by decide +kernel
theorem dX6_count_114 : decode cX6_count 114 = .ok (.istore_n 3, 1) := by decide +kernel
theorem dX6_count_115 : decode cX6_count 115 = .ok (.iload_n 3, 1) := by decide +kernel
theorem dX6_count_116 : decode cX6_count 116 = .ok (.bipush 10, 2) := by decide +kernel
theorem dX6_count_118 : decode cX6_count 118 = .ok (.if_icmp .ge 29, 3) := by decide +kernel
theorem dX6_count_121 : decode cX6_count 121 = .ok (.iload_n 2, 1) := by decide +kernel
theorem dX6_count_122 : decode cX6_count 122 = .ok (.aload_n 0, 1) := by decide +kernel
theorem dX6_count_123 : decode cX6_count 123 = .ok (.getfield 7, 3) := by decide +kernel
theorem dX6_count_126 : decode cX6_count 126 = .ok (.bipush 20, 2) := by decide +kernel
theorem dX6_count_128 : decode cX6_count 128 = .ok (.iload_n 3, 1) := by decide +kernel
theorem dX6_count_129 : decode cX6_count 129 = .ok (.iadd, 1) := by decide +kernel
theorem dX6_count_130 : decode cX6_count 130 = .ok (.iaload, 1) := by decide +kernel
theorem dX6_count_131 : decode cX6_count 131 = .ok (.ifCond .ge 7, 3) := by decide +kernel
theorem dX6_count_134 : decode cX6_count 134 = .ok (.iconst 1, 1) := by decide +kernel
theorem dX6_count_135 : decode cX6_count 135 = .ok (.goto 4, 3) := by decide +kernel
theorem dX6_count_138 : decode cX6_count 138 = .ok (.iconst 0, 1) := by decide +kernel
theorem dX6_count_139 : decode cX6_count 139 = .ok (.iadd, 1) := by decide +kernel
theorem dX6_count_140 : decode cX6_count 140 = .ok (.istore_n 2, 1) := by decide +kernel
theorem dX6_count_141 : decode cX6_count 141 = .ok (.iinc 3 1, 3) := by decide +kernel
theorem dX6_count_144 : decode cX6_count 144 = .ok (.goto (-29), 3) := by decide +kernel
theorem dX6_count_147 : decode cX6_count 147 = .ok (.iload_n 2, 1) := by decide +kernel
theorem dX6_count_148 : decode cX6_count 148 = .ok (.ireturn, 1) := by decide +kernel
theorem dX6_count_149 : decode cX6_count 149 = .ok (.iconst (-1), 1) := by decide +kernel
theorem dX6_count_150 : decode cX6_count 150 = .ok (.ireturn, 1) := by decide +kernel
theorem dX6_foretell_0 : decode cX6_foretell 0 = .ok (.aload_n 0, 1) := by decide +kernel
