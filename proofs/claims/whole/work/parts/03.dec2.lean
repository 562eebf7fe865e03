theorem dX13_shifts_6 : decode cX13_shifts 6 = .ok (.ifCond .ne 9, 3) := by decide +kernel
theorem dX13_shifts_9 : decode cX13_shifts 9 = .ok (.aload_n 0, 1) := by decide +kernel
theorem dX13_shifts_10 : decode cX13_shifts 10 = .ok (.iconst 1, 1) := by decide +kernel
theorem dX13_shifts_11 : decode cX13_shifts 11 = .ok (.invokevirtual 61, 3) := by decide +kernel
theorem dX13_shifts_14 : decode cX13_shifts 14 = .ok (.ireturn, 1) := by decide +kernel
theorem dX13_shifts_15 : decode cX13_shifts 15 = .ok (.iload_n 3, 1) := by decide +kernel
theorem dX13_shifts_16 : decode cX13_shifts 16 = .ok (.ifCond .eq 14, 3) := by decide +kernel
theorem dX13_shifts_19 : decode cX13_shifts 19 = .ok (.iload_n 3, 1) := by decide +kernel
theorem dX13_shifts_20 : decode cX13_shifts 20 = .ok (.bipush (-8), 2) := by decide +kernel
theorem dX13_shifts_22 : decode cX13_shifts 22 = .ok (.bipush 8, 2) := by decide +kernel
theorem dX13_shifts_24 : decode cX13_shifts 24 = .ok (.invokestatic 57, 3) := by decide +kernel
theorem dX13_shifts_27 : decode cX13_shifts 27 = .ok (.ifCond .ne 9, 3) := by decide +kernel
theorem dX13_shifts_30 : decode cX13_shifts 30 = .ok (.aload_n 0, 1) := by decide +kernel
theorem dX13_shifts_31 : decode cX13_shifts 31 = .ok (.iconst 2, 1) := by decide +kernel
theorem dX13_shifts_32 : decode cX13_shifts 32 = .ok (.invokevirtual 61, 3) := by decide +kernel
theorem dX13_shifts_35 : decode cX13_shifts 35 = .ok (.ireturn, 1) := by decide +kernel
theorem dX13_shifts_36 : decode cX13_shifts 36 = .ok (.iconst 0, 1) := by decide +kernel
theorem dX13_shifts_37 : decode cX13_shifts 37 = .ok (.istore 4, 2) := by decide +kernel
theorem dX13_shifts_39 : decode cX13_shifts 39 = .ok (.iload_n 1, 1) := by decide +kernel
theorem dX13_shifts_40 : decode cX13_shifts 40 = .ok (.istore 5, 2) := by decide +kernel
theorem dX13_shifts_42 : decode cX13_shifts 42 = .ok (.iload 5, 2) := by decide +kernel
theorem dX13_shifts_44 : decode cX13_shifts 44 = .ok (.iload_n 2, 1) := by decide +kernel
theorem dX13_shifts_45 : decode cX13_shifts 45 = .ok (.if_icmp .ge 88, 3) := by decide +kernel
theorem dX13_shifts_48 : decode cX13_shifts 48 = .ok (.aload_n 0, 1) := by decide +kernel
theorem dX13_shifts_49 : decode cX13_shifts 49 = .ok (.iload 5, 2) := by decide +kernel
theorem dX13_shifts_51 : decode cX13_shifts 51 = .ok (.invokevirtual 65, 3) := by decide +kernel
theorem dX13_shifts_54 : decode cX13_shifts 54 = .ok (.istore 6, 2) := by decide +kernel
theorem dX13_shifts_56 : decode cX13_shifts 56 = .ok (.iload 6, 2) := by decide +kernel
theorem dX13_shifts_58 : decode cX13_shifts 58 = .ok (.iload_n 3, 1) := by decide +kernel
theorem dX13_shifts_59 : decode cX13_shifts 59 = .ok (.iadd, 1) := by decide +kernel
theorem dX13_shifts_60 : decode cX13_shifts 60 = .ok (.istore 7, 2) := by decide +kernel
theorem dX13_shifts_62 : decode cX13_shifts 62 = .ok (.iload 6, 2) := by decide +kernel
theorem dX13_shifts_64 : decode cX13_shifts 64 = .ok (.ifCond .ne 6, 3) := by decide +kernel
theorem dX13_shifts_67 : decode cX13_shifts 67 = .ok (.goto 60, 3) := by decide +kernel
theorem dX13_shifts_70 : decode cX13_shifts 70 = .ok (.aload_n 0, 1) := by decide +kernel
theorem dX13_shifts_71 : decode cX13_shifts 71 = .ok (.getfield 16, 3) := by decide +kernel
theorem dX13_shifts_74 : decode cX13_shifts 74 = .ok (.iconst 4, 1) := by decide +kernel
theorem dX13_shifts_75 : decode cX13_shifts 75 = .ok (.iload 5, 2) := by decide +kernel
theorem dX13_shifts_77 : decode cX13_shifts 77 = .ok (.iadd, 1) := by decide +kernel
theorem dX13_shifts_78 : decode cX13_shifts 78 = .ok (.iload 7, 2) := by decide +kernel
theorem dX13_shifts_80 : decode cX13_shifts 80 = .ok (.iconst 1, 1) := by decide +kernel
theorem dX13_shifts_81 : decode cX13_shifts 81 = .ok (.if_icmp .ge 7, 3) := by decide +kernel
theorem dX13_shifts_84 : decode cX13_shifts 84 = .ok (.iconst 1, 1) := by decide +kernel
theorem dX13_shifts_85 : decode cX13_shifts 85 = .ok (.goto 17, 3) := by decide +kernel
theorem dX13_shifts_88 : decode cX13_shifts 88 = .ok (.iload 7, 2) := by decide +kernel
theorem dX13_shifts_90 : decode cX13_shifts 90 = .ok (.bipush 9, 2) := by decide +kernel
theorem dX13_shifts_92 : decode cX13_shifts 92 = .ok (.if_icmp .le 8, 3) := by decide +kernel
theorem dX13_shifts_95 : decode cX13_shifts 95 = .ok (.bipush 9, 2) := by decide +kernel
theorem dX13_shifts_97 : decode cX13_shifts 97 = .ok (.goto 5, 3) := by decide +kernel
theorem dX13_shifts_100 : decode cX13_shifts 100 = .ok (.iload 7, 2) := by decide +kernel
theorem dX13_shifts_102 : decode cX13_shifts 102 = .ok (.iastore, 1) := by decide +kernel
theorem dX13_shifts_103 : decode cX13_shifts 103 = .ok (.iload 4, 2) := by decide +kernel
theorem dX13_shifts_105 : decode cX13_shifts 105 = .ok (.aload_n 0, 1) := by decide +kernel
theorem dX13_shifts_106 : decode cX13_shifts 106 = .ok (.getfield 16, 3) := by decide +kernel
theorem dX13_shifts_109 : decode cX13_shifts 109 = .ok (.iconst 4, 1) := by decide +kernel
theorem dX13_shifts_110 : decode cX13_shifts 110 = .ok (.iload 5, 2) := by decide +kernel
theorem dX13_shifts_112 : decode cX13_shifts 112 = .ok (.iadd, 1) := by decide +kernel
theorem dX13_shifts_113 : decode cX13_shifts 113 = .ok (.iaload, 1) := by decide +kernel
theorem dX13_shifts_114 : decode cX13_shifts 114 = .ok (.iload 6, 2) := by decide +kernel
theorem dX13_shifts_116 : decode cX13_shifts 116 = .ok (.if_icmp .ne 7, 3) := by decide +kernel
theorem dX13_shifts_119 : decode cX13_shifts 119 = .ok (.iconst 0, 1) := by decide +kernel
theorem dX13_shifts_120 : decode cX13_shifts 120 = .ok (.goto 4, 3) := by decide +kernel
theorem dX13_shifts_123 : decode cX13_shifts 123 = .ok (.iconst 1, 1) := by decide +kernel
theorem dX13_shifts_124 : decode cX13_shifts 124 = .ok (.iadd, 1) := by decide +kernel
theorem dX13_shifts_125 : decode cX13_shifts 125 = .ok (.istore 4, 2) := by decide +kernel
theorem dX13_shifts_127 : decode cX13_shifts 127 = .ok (.iinc 5 1, 3) := by decide +kernel
theorem dX13_shifts_130 : decode cX13_shifts 130 = .ok (.goto (-88), 3) := by decide +kernel
theorem dX13_shifts_133 : decode cX13_shifts 133 = .ok (.iload 4, 2) := by decide +kernel
theorem dX13_shifts_135 : decode cX13_shifts 135 = .ok (.ireturn, 1) := by decide +kernel
theorem dX13_modulate_0 : decode cX13_modulate 0 = .ok (.aload_n 0, 1) := by decide +kernel
theorem dX13_modulate_1 : decode cX13_modulate 1 = .ok (.invokevirtual 68, 3) := by decide +kernel
theorem dX13_modulate_4 : decode cX13_modulate 4 = .ok (.aload_n 0, 1) := by decide +kernel
theorem dX13_modulate_5 : decode cX13_modulate 5 = .ok (.aload_n 0, 1) := by decide +kernel
theorem dX13_modulate_6 : decode cX13_modulate 6 = .ok (.iload_n 1, 1) := by decide +kernel
theorem dX13_modulate_7 : decode cX13_modulate 7 = .ok (.iload_n 2, 1) := by decide +kernel
theorem dX13_modulate_8 : decode cX13_modulate 8 = .ok (.iload_n 3, 1) := by decide +kernel
theorem dX13_modulate_9 : decode cX13_modulate 9 = .ok (.invokevirtual 103, 3) := by decide +kernel
theorem dX13_modulate_12 : decode cX13_modulate 12 = .ok (.invokevirtual 75, 3) := by decide +kernel
theorem dX13_modulate_15 : decode cX13_modulate 15 = .ok (.ireturn, 1) := by decide +kernel
theorem dX13_turns_0 : decode cX13_turns 0 = .ok (.aload_n 0, 1) := by decide +kernel
theorem dX13_turns_1 : decode cX13_turns 1 = .ok (.iload_n 1, 1) := by decide +kernel
theorem dX13_turns_2 : decode cX13_turns 2 = .ok (.iload_n 2, 1) := by decide +kernel
theorem dX13_turns_3 : decode cX13_turns 3 = .ok (.invokevirtual 86, 3) := by decide +kernel
theorem dX13_turns_6 : decode cX13_turns 6 = .ok (.ifCond .ne 9, 3) := by decide +kernel
theorem dX13_turns_9 : decode cX13_turns 9 = .ok (.aload_n 0, 1) := by decide +kernel
theorem dX13_turns_10 : decode cX13_turns 10 = .ok (.iconst 1, 1) := by decide +kernel
theorem dX13_turns_11 : decode cX13_turns 11 = .ok (.invokevirtual 61, 3) := by decide +kernel
theorem dX13_turns_14 : decode cX13_turns 14 = .ok (.ireturn, 1) := by decide +kernel
theorem dX13_turns_15 : decode cX13_turns 15 = .ok (.iconst 0, 1) := by decide +kernel
theorem dX13_turns_16 : decode cX13_turns 16 = .ok (.istore_n 3, 1) := by decide +kernel
theorem dX13_turns_17 : decode cX13_turns 17 = .ok (.iconst 0, 1) := by decide +kernel
theorem dX13_turns_18 : decode cX13_turns 18 = .ok (.istore 4, 2) := by decide +kernel
theorem dX13_turns_20 : decode cX13_turns 20 = .ok (.iload_n 1, 1) := by decide +kernel
theorem dX13_turns_21 : decode cX13_turns 21 = .ok (.iload 4, 2) := by decide +kernel
theorem dX13_turns_23 : decode cX13_turns 23 = .ok (.iadd, 1) := by decide +kernel
theorem dX13_turns_24 : decode cX13_turns 24 = .ok (.iload_n 2, 1) := by decide +kernel
theorem dX13_turns_25 : decode cX13_turns 25 = .ok (.iconst 1, 1) := by decide +kernel
theorem dX13_turns_26 : decode cX13_turns 26 = .ok (.isub, 1) := by decide +kernel
theorem dX13_turns_27 : decode cX13_turns 27 = .ok (.iload 4, 2) := by decide +kernel
theorem dX13_turns_29 : decode cX13_turns 29 = .ok (.isub, 1) := by decide +kernel
theorem dX13_turns_30 : decode cX13_turns 30 = .ok (.if_icmp .ge 74, 3) := by decide +kernel
theorem dX13_turns_33 : decode cX13_turns 33 = .ok (.aload_n 0, 1) := by decide +kernel
theorem dX13_turns_34 : decode cX13_turns 34 = .ok (.iload_n 1, 1) := by decide +kernel
theorem dX13_turns_35 : decode cX13_turns 35 = .ok (.iload 4, 2) := by decide +kernel
theorem dX13_turns_37 : decode cX13_turns 37 = .ok (.iadd, 1) := by decide +kernel
theorem dX13_turns_38 : decode cX13_turns 38 = .ok (.invokevirtual 65, 3) := by decide +kernel
theorem dX13_turns_41 : decode cX13_turns 41 = .ok (.istore 5, 2) := by decide +kernel
theorem dX13_turns_43 : decode cX13_turns 43 = .ok (.aload_n 0, 1) := by decide +kernel
theorem dX13_turns_44 : decode cX13_turns 44 = .ok (.iload_n 2, 1) := by decide +kernel
theorem dX13_turns_45 : decode cX13_turns 45 = .ok (.iconst 1, 1) := by decide +kernel
theorem dX13_turns_46 : decode cX13_turns 46 = .ok (.isub, 1) := by decide +kernel
theorem dX13_turns_47 : decode cX13_turns 47 = .ok (.iload 4, 2) := by decide +kernel
theorem dX13_turns_49 : decode cX13_turns 49 = .ok (.isub, 1) := by decide +kernel
theorem dX13_turns_50 : decode cX13_turns 50 = .ok (.invokevirtual 65, 3) := by decide +kernel
theorem dX13_turns_53 : decode cX13_turns 53 = .ok (.istore 6, 2) := by decide +kernel
theorem dX13_turns_55 : decode cX13_turns 55 = .ok (.iload_n 3, 1) := by decide +kernel
theorem dX13_turns_56 : decode cX13_turns 56 = .ok (.iload 5, 2) := by decide +kernel
theorem dX13_turns_58 : decode cX13_turns 58 = .ok (.iload 6, 2) := by decide +kernel
theorem dX13_turns_60 : decode cX13_turns 60 = .ok (.if_icmp .ne 7, 3) := by decide +kernel
theorem dX13_turns_63 : decode cX13_turns 63 = .ok (.iconst 0, 1) := by decide +kernel
theorem dX13_turns_64 : decode cX13_turns 64 = .ok (.goto 4, 3) := by decide +kernel
theorem dX13_turns_67 : decode cX13_turns 67 = .ok (.iconst 2, 1) := by decide +kernel
theorem dX13_turns_68 : decode cX13_turns 68 = .ok (.iadd, 1) := by decide +kernel
theorem dX13_turns_69 : decode cX13_turns 69 = .ok (.istore_n 3, 1) := by decide +kernel
theorem dX13_turns_70 : decode cX13_turns 70 = .ok (.aload_n 0, 1) := by decide +kernel
theorem dX13_turns_71 : decode cX13_turns 71 = .ok (.getfield 16, 3) := by decide +kernel
theorem dX13_turns_74 : decode cX13_turns 74 = .ok (.iconst 4, 1) := by decide +kernel
theorem dX13_turns_75 : decode cX13_turns 75 = .ok (.iload_n 1, 1) := by decide +kernel
theorem dX13_turns_76 : decode cX13_turns 76 = .ok (.iadd, 1) := by decide +kernel
theorem dX13_turns_77 : decode cX13_turns 77 = .ok (.iload 4, 2) := by decide +kernel
theorem dX13_turns_79 : decode cX13_turns 79 = .ok (.iadd, 1) := by decide +kernel
theorem dX13_turns_80 : decode cX13_turns 80 = .ok (.iload 6, 2) := by decide +kernel
theorem dX13_turns_82 : decode cX13_turns 82 = .ok (.iastore, 1) := by decide +kernel
theorem dX13_turns_83 : decode cX13_turns 83 = .ok (.aload_n 0, 1) := by decide +kernel
theorem dX13_turns_84 : decode cX13_turns 84 = .ok (.getfield 16, 3) := by decide +kernel
theorem dX13_turns_87 : decode cX13_turns 87 = .ok (.iconst 4, 1) := by decide +kernel
theorem dX13_turns_88 : decode cX13_turns 88 = .ok (.iload_n 2, 1) := by decide +kernel
theorem dX13_turns_89 : decode cX13_turns 89 = .ok (.iadd, 1) := by decide +kernel
theorem dX13_turns_90 : decode cX13_turns 90 = .ok (.iconst 1, 1) := by decide +kernel
theorem dX13_turns_91 : decode cX13_turns 91 = .ok (.isub, 1) := by decide +kernel
theorem dX13_turns_92 : decode cX13_turns 92 = .ok (.iload 4, 2) := by decide +kernel
theorem dX13_turns_94 : decode cX13_turns 94 = .ok (.isub, 1) := by decide +kernel
theorem dX13_turns_95 : decode cX13_turns 95 = .ok (.iload 5, 2) := by decide +kernel
theorem dX13_turns_97 : decode cX13_turns 97 = .ok (.iastore, 1) := by decide +kernel
theorem dX13_turns_98 : decode cX13_turns 98 = .ok (.iinc 4 1, 3) := by decide +kernel
theorem dX13_turns_101 : decode cX13_turns 101 = .ok (.goto (-81), 3) := by decide +kernel
theorem dX13_turns_104 : decode cX13_turns 104 = .ok (.iload_n 3, 1) := by decide +kernel
theorem dX13_turns_105 : decode cX13_turns 105 = .ok (.ireturn, 1) := by decide +kernel
theorem dX13_reverse_0 : decode cX13_reverse 0 = .ok (.aload_n 0, 1) := by decide +kernel
theorem dX13_reverse_1 : decode cX13_reverse 1 = .ok (.invokevirtual 68, 3) := by decide +kernel
theorem dX13_reverse_4 : decode cX13_reverse 4 = .ok (.aload_n 0, 1) := by decide +kernel
theorem dX13_reverse_5 : decode cX13_reverse 5 = .ok (.aload_n 0, 1) := by decide +kernel
theorem dX13_reverse_6 : decode cX13_reverse 6 = .ok (.iload_n 1, 1) := by decide +kernel
theorem dX13_reverse_7 : decode cX13_reverse 7 = .ok (.iload_n 2, 1) := by decide +kernel
theorem dX13_reverse_8 : decode cX13_reverse 8 = .ok (.invokevirtual 106, 3) := by decide +kernel
theorem dX13_reverse_11 : decode cX13_reverse 11 = .ok (.invokevirtual 75, 3) := by decide +kernel
theorem dX13_reverse_14 : decode cX13_reverse 14 = .ok (.ifCond .le 7, 3) := by decide +kernel
theorem dX13_reverse_17 : decode cX13_reverse 17 = .ok (.iconst 1, 1) := by decide +kernel
theorem dX13_reverse_18 : decode cX13_reverse 18 = .ok (.goto 4, 3) := by decide +kernel
theorem dX13_reverse_21 : decode cX13_reverse 21 = .ok (.iconst 0, 1) := by decide +kernel
theorem dX13_reverse_22 : decode cX13_reverse 22 = .ok (.ireturn, 1) := by decide +kernel
theorem dX13_repeats_0 : decode cX13_repeats 0 = .ok (.aload_n 0, 1) := by decide +kernel
theorem dX13_repeats_1 : decode cX13_repeats 1 = .ok (.iload_n 1, 1) := by decide +kernel
theorem dX13_repeats_2 : decode cX13_repeats 2 = .ok (.iload_n 2, 1) := by decide +kernel
theorem dX13_repeats_3 : decode cX13_repeats 3 = .ok (.invokevirtual 86, 3) := by decide +kernel
theorem dX13_repeats_6 : decode cX13_repeats 6 = .ok (.ifCond .ne 9, 3) := by decide +kernel
theorem dX13_repeats_9 : decode cX13_repeats 9 = .ok (.aload_n 0, 1) := by decide +kernel
theorem dX13_repeats_10 : decode cX13_repeats 10 = .ok (.iconst 1, 1) := by decide +kernel
theorem dX13_repeats_11 : decode cX13_repeats 11 = .ok (.invokevirtual 61, 3) := by decide +kernel
theorem dX13_repeats_14 : decode cX13_repeats 14 = .ok (.ireturn, 1) := by decide +kernel
theorem dX13_repeats_15 : decode cX13_repeats 15 = .ok (.iload_n 3, 1) := by decide +kernel
theorem dX13_repeats_16 : decode cX13_repeats 16 = .ok (.iconst 1, 1) := by decide +kernel
theorem dX13_repeats_17 : decode cX13_repeats 17 = .ok (.bipush 9, 2) := by decide +kernel
theorem dX13_repeats_19 : decode cX13_repeats 19 = .ok (.invokestatic 57, 3) := by decide +kernel
theorem dX13_repeats_22 : decode cX13_repeats 22 = .ok (.ifCond .ne 9, 3) := by decide +kernel
theorem dX13_repeats_25 : decode cX13_repeats 25 = .ok (.aload_n 0, 1) := by decide +kernel
theorem dX13_repeats_26 : decode cX13_repeats 26 = .ok (.iconst 2, 1) := by decide +kernel
theorem dX13_repeats_27 : decode cX13_repeats 27 = .ok (.invokevirtual 61, 3) := by decide +kernel
theorem dX13_repeats_30 : decode cX13_repeats 30 = .ok (.ireturn, 1) := by decide +kernel
theorem dX13_repeats_31 : decode cX13_repeats 31 = .ok (.iload_n 2, 1) := by decide +kernel
theorem dX13_repeats_32 : decode cX13_repeats 32 = .ok (.iload_n 1, 1) := by decide +kernel
theorem dX13_repeats_33 : decode cX13_repeats 33 = .ok (.isub, 1) := by decide +kernel
theorem dX13_repeats_34 : decode cX13_repeats 34 = .ok (.istore 4, 2) := by decide +kernel
theorem dX13_repeats_36 : decode cX13_repeats 36 = .ok (.aload_n 0, 1) := by decide +kernel
theorem dX13_repeats_37 : decode cX13_repeats 37 = .ok (.getfield 16, 3) := by decide +kernel
theorem dX13_repeats_40 : decode cX13_repeats 40 = .ok (.iconst 0, 1) := by decide +kernel
theorem dX13_repeats_41 : decode cX13_repeats 41 = .ok (.iaload, 1) := by decide +kernel
theorem dX13_repeats_42 : decode cX13_repeats 42 = .ok (.iload 4, 2) := by decide +kernel
theorem dX13_repeats_44 : decode cX13_repeats 44 = .ok (.iload_n 3, 1) := by decide +kernel
theorem dX13_repeats_45 : decode cX13_repeats 45 = .ok (.imul, 1) := by decide +kernel
theorem dX13_repeats_46 : decode cX13_repeats 46 = .ok (.iadd, 1) := by decide +kernel
theorem dX13_repeats_47 : decode cX13_repeats 47 = .ok (.sipush 200, 3) := by decide +kernel
theorem dX13_repeats_50 : decode cX13_repeats 50 = .ok (.if_icmp .le 9, 3) := by decide +kernel
theorem dX13_repeats_53 : decode cX13_repeats 53 = .ok (.aload_n 0, 1) := by decide +kernel
theorem dX13_repeats_54 : decode cX13_repeats 54 = .ok (.iconst 3, 1) := by decide +kernel
theorem dX13_repeats_55 : decode cX13_repeats 55 = .ok (.invokevirtual 61, 3) := by decide +kernel
theorem dX13_repeats_58 : decode cX13_repeats 58 = .ok (.ireturn, 1) := by decide +kernel
theorem dX13_repeats_59 : decode cX13_repeats 59 = .ok (.aload_n 0, 1) := by decide +kernel
theorem dX13_repeats_60 : decode cX13_repeats 60 = .ok (.iload_n 2, 1) := by decide +kernel
theorem dX13_repeats_61 : decode cX13_repeats 61 = .ok (.iload 4, 2) := by decide +kernel
theorem dX13_repeats_63 : decode cX13_repeats 63 = .ok (.iload_n 3, 1) := by decide +kernel
theorem dX13_repeats_64 : decode cX13_repeats 64 = .ok (.imul, 1) := by decide +kernel
theorem dX13_repeats_65 : decode cX13_repeats 65 = .ok (.invokevirtual 78, 3) := by decide +kernel
theorem dX13_repeats_68 : decode cX13_repeats 68 = .ok (.iconst 0, 1) := by decide +kernel
theorem dX13_repeats_69 : decode cX13_repeats 69 = .ok (.istore 5, 2) := by decide +kernel
theorem dX13_repeats_71 : decode cX13_repeats 71 = .ok (.iload 5, 2) := by decide +kernel
theorem dX13_repeats_73 : decode cX13_repeats 73 = .ok (.iload 4, 2) := by decide +kernel
theorem dX13_repeats_75 : decode cX13_repeats 75 = .ok (.iload_n 3, 1) := by decide +kernel
theorem dX13_repeats_76 : decode cX13_repeats 76 = .ok (.imul, 1) := by decide +kernel
theorem dX13_repeats_77 : decode cX13_repeats 77 = .ok (.if_icmp .ge 31, 3) := by decide +kernel
theorem dX13_repeats_80 : decode cX13_repeats 80 = .ok (.aload_n 0, 1) := by decide +kernel
theorem dX13_repeats_81 : decode cX13_repeats 81 = .ok (.getfield 16, 3) := by decide +kernel
theorem dX13_repeats_84 : decode cX13_repeats 84 = .ok (.iconst 4, 1) := by decide +kernel
theorem dX13_repeats_85 : decode cX13_repeats 85 = .ok (.iload_n 2, 1) := by decide +kernel
theorem dX13_repeats_86 : decode cX13_repeats 86 = .ok (.iadd, 1) := by decide +kernel
theorem dX13_repeats_87 : decode cX13_repeats 87 = .ok (.iload 5, 2) := by decide +kernel
theorem dX13_repeats_89 : decode cX13_repeats 89 = .ok (.iadd, 1) := by decide +kernel
theorem dX13_repeats_90 : decode cX13_repeats 90 = .ok (.aload_n 0, 1) := by decide +kernel
theorem dX13_repeats_91 : decode cX13_repeats 91 = .ok (.iload_n 1, 1) := by decide +kernel
theorem dX13_repeats_92 : decode cX13_repeats 92 = .ok (.iload 5, 2) := by decide +kernel
theorem dX13_repeats_94 : decode cX13_repeats 94 = .ok (.iload 4, 2) := by decide +kernel
theorem dX13_repeats_96 : decode cX13_repeats 96 = .ok (.irem, 1) := by decide +kernel
theorem dX13_repeats_97 : decode cX13_repeats 97 = .ok (.iadd, 1) := by decide +kernel
theorem dX13_repeats_98 : decode cX13_repeats 98 = .ok (.invokevirtual 65, 3) := by decide +kernel
theorem dX13_repeats_101 : decode cX13_repeats 101 = .ok (.iastore, 1) := by decide +kernel
theorem dX13_repeats_102 : decode cX13_repeats 102 = .ok (.iinc 5 1, 3) := by decide +kernel
theorem dX13_repeats_105 : decode cX13_repeats 105 = .ok (.goto (-34), 3) := by decide +kernel
theorem dX13_repeats_108 : decode cX13_repeats 108 = .ok (.aload_n 0, 1) := by decide +kernel
theorem dX13_repeats_109 : decode cX13_repeats 109 = .ok (.getfield 16, 3) := by decide +kernel
theorem dX13_repeats_112 : decode cX13_repeats 112 = .ok (.iconst 0, 1) := by decide +kernel
theorem dX13_repeats_113 : decode cX13_repeats 113 = .ok (.iaload, 1) := by decide +kernel
theorem dX13_repeats_114 : decode cX13_repeats 114 = .ok (.ireturn, 1) := by decide +kernel
theorem dX13_repeat_0 : decode cX13_repeat 0 = .ok (.aload_n 0, 1) := by decide +kernel
theorem dX13_repeat_1 : decode cX13_repeat 1 = .ok (.invokevirtual 68, 3) := by decide +kernel
theorem dX13_repeat_4 : decode cX13_repeat 4 = .ok (.aload_n 0, 1) := by decide +kernel
theorem dX13_repeat_5 : decode cX13_repeat 5 = .ok (.aload_n 0, 1) := by decide +kernel
theorem dX13_repeat_6 : decode cX13_repeat 6 = .ok (.iload_n 1, 1) := by decide +kernel
theorem dX13_repeat_7 : decode cX13_repeat 7 = .ok (.iload_n 2, 1) := by decide +kernel
theorem dX13_repeat_8 : decode cX13_repeat 8 = .ok (.iload_n 3, 1) := by decide +kernel
theorem dX13_repeat_9 : decode cX13_repeat 9 = .ok (.invokevirtual 109, 3) := by decide +kernel
theorem dX13_repeat_12 : decode cX13_repeat 12 = .ok (.invokevirtual 75, 3) := by decide +kernel
theorem dX13_repeat_15 : decode cX13_repeat 15 = .ok (.ireturn, 1) := by decide +kernel
theorem dX13_copies_0 : decode cX13_copies 0 = .ok (.aload_n 0, 1) := by decide +kernel
theorem dX13_copies_1 : decode cX13_copies 1 = .ok (.iload_n 1, 1) := by decide +kernel
theorem dX13_copies_2 : decode cX13_copies 2 = .ok (.iload_n 2, 1) := by decide +kernel
theorem dX13_copies_3 : decode cX13_copies 3 = .ok (.invokevirtual 86, 3) := by decide +kernel
theorem dX13_copies_6 : decode cX13_copies 6 = .ok (.ifCond .ne 9, 3) := by decide +kernel
theorem dX13_copies_9 : decode cX13_copies 9 = .ok (.aload_n 0, 1) := by decide +kernel
theorem dX13_copies_10 : decode cX13_copies 10 = .ok (.iconst 1, 1) := by decide +kernel
theorem dX13_copies_11 : decode cX13_copies 11 = .ok (.invokevirtual 61, 3) := by decide +kernel
theorem dX13_copies_14 : decode cX13_copies 14 = .ok (.ireturn, 1) := by decide +kernel
theorem dX13_copies_15 : decode cX13_copies 15 = .ok (.iconst 0, 1) := by decide +kernel
theorem dX13_copies_16 : decode cX13_copies 16 = .ok (.istore_n 3, 1) := by decide +kernel
theorem dX13_copies_17 : decode cX13_copies 17 = .ok (.iload_n 3, 1) := by decide +kernel
theorem dX13_copies_18 : decode cX13_copies 18 = .ok (.sipush 200, 3) := by decide +kernel
theorem dX13_copies_21 : decode cX13_copies 21 = .ok (.if_icmp .ge 37, 3) := by decide +kernel
theorem dX13_copies_24 : decode cX13_copies 24 = .ok (.aload_n 0, 1) := by decide +kernel
theorem dX13_copies_25 : decode cX13_copies 25 = .ok (.getfield 16, 3) := by decide +kernel
theorem dX13_copies_28 : decode cX13_copies 28 = .ok (.sipush 210, 3) := by decide +kernel
theorem dX13_copies_31 : decode cX13_copies 31 = .ok (.iload_n 3, 1) := by decide +kernel
theorem dX13_copies_32 : decode cX13_copies 32 = .ok (.iadd, 1) := by decide +kernel
theorem dX13_copies_33 : decode cX13_copies 33 = .ok (.iload_n 1, 1) := by decide +kernel
theorem dX13_copies_34 : decode cX13_copies 34 = .ok (.iload_n 3, 1) := by decide +kernel
theorem dX13_copies_35 : decode cX13_copies 35 = .ok (.iadd, 1) := by decide +kernel
theorem dX13_copies_36 : decode cX13_copies 36 = .ok (.iload_n 2, 1) := by decide +kernel
theorem dX13_copies_37 : decode cX13_copies 37 = .ok (.if_icmp .ge 13, 3) := by decide +kernel
theorem dX13_copies_40 : decode cX13_copies 40 = .ok (.aload_n 0, 1) := by decide +kernel
theorem dX13_copies_41 : decode cX13_copies 41 = .ok (.iload_n 1, 1) := by decide +kernel
theorem dX13_copies_42 : decode cX13_copies 42 = .ok (.iload_n 3, 1) := by decide +kernel
theorem dX13_copies_43 : decode cX13_copies 43 = .ok (.iadd, 1) := by decide +kernel
theorem dX13_copies_44 : decode cX13_copies 44 = .ok (.invokevirtual 65, 3) := by decide +kernel
theorem dX13_copies_47 : decode cX13_copies 47 = .ok (.goto 4, 3) := by decide +kernel
theorem dX13_copies_50 : decode cX13_copies 50 = .ok (.iconst 0, 1) := by decide +kernel
theorem dX13_copies_51 : decode cX13_copies 51 = .ok (.iastore, 1) := by decide +kernel
theorem dX13_copies_52 : decode cX13_copies 52 = .ok (.iinc 3 1, 3) := by decide +kernel
theorem dX13_copies_55 : decode cX13_copies 55 = .ok (.goto (-38), 3) := by decide +kernel
theorem dX13_copies_58 : decode cX13_copies 58 = .ok (.aload_n 0, 1) := by decide +kernel
theorem dX13_copies_59 : decode cX13_copies 59 = .ok (.getfield 16, 3) := by decide +kernel
theorem dX13_copies_62 : decode cX13_copies 62 = .ok (.iconst 2, 1) := by decide +kernel
theorem dX13_copies_63 : decode cX13_copies 63 = .ok (.iload_n 2, 1) := by decide +kernel
theorem dX13_copies_64 : decode cX13_copies 64 = .ok (.iload_n 1, 1) := by decide +kernel
theorem dX13_copies_65 : decode cX13_copies 65 = .ok (.isub, 1) := by decide +kernel
theorem dX13_copies_66 : decode cX13_copies 66 = .ok (.iastore, 1) := by decide +kernel
theorem dX13_copies_67 : decode cX13_copies 67 = .ok (.aload_n 0, 1) := by decide +kernel
theorem dX13_copies_68 : decode cX13_copies 68 = .ok (.getfield 16, 3) := by decide +kernel
theorem dX13_copies_71 : decode cX13_copies 71 = .ok (.iconst 2, 1) := by decide +kernel
theorem dX13_copies_72 : decode cX13_copies 72 = .ok (.iaload, 1) := by decide +kernel
theorem dX13_copies_73 : decode cX13_copies 73 = .ok (.ireturn, 1) := by decide +kernel
theorem dX13_copy_0 : decode cX13_copy 0 = .ok (.aload_n 0, 1) := by decide +kernel
theorem dX13_copy_1 : decode cX13_copy 1 = .ok (.invokevirtual 68, 3) := by decide +kernel
theorem dX13_copy_4 : decode cX13_copy 4 = .ok (.aload_n 0, 1) := by decide +kernel
theorem dX13_copy_5 : decode cX13_copy 5 = .ok (.aload_n 0, 1) := by decide +kernel
theorem dX13_copy_6 : decode cX13_copy 6 = .ok (.iload_n 1, 1) := by decide +kernel
theorem dX13_copy_7 : decode cX13_copy 7 = .ok (.iload_n 2, 1) := by decide +kernel
theorem dX13_copy_8 : decode cX13_copy 8 = .ok (.invokevirtual 112, 3) := by decide +kernel
theorem dX13_copy_11 : decode cX13_copy 11 = .ok (.invokevirtual 75, 3) := by decide +kernel
theorem dX13_copy_14 : decode cX13_copy 14 = .ok (.ireturn, 1) := by decide +kernel
theorem dX13_pastes_0 : decode cX13_pastes 0 = .ok (.iload_n 1, 1) := by decide +kernel
theorem dX13_pastes_1 : decode cX13_pastes 1 = .ok (.iconst 0, 1) := by decide +kernel
theorem dX13_pastes_2 : decode cX13_pastes 2 = .ok (.aload_n 0, 1) := by decide +kernel
theorem dX13_pastes_3 : decode cX13_pastes 3 = .ok (.getfield 16, 3) := by decide +kernel
theorem dX13_pastes_6 : decode cX13_pastes 6 = .ok (.iconst 0, 1) := by decide +kernel
theorem dX13_pastes_7 : decode cX13_pastes 7 = .ok (.iaload, 1) := by decide +kernel
theorem dX13_pastes_8 : decode cX13_pastes 8 = .ok (.invokestatic 57, 3) := by decide +kernel
theorem dX13_pastes_11 : decode cX13_pastes 11 = .ok (.ifCond .ne 9, 3) := by decide +kernel
theorem dX13_pastes_14 : decode cX13_pastes 14 = .ok (.aload_n 0, 1) := by decide +kernel
theorem dX13_pastes_15 : decode cX13_pastes 15 = .ok (.iconst 1, 1) := by decide +kernel
theorem dX13_pastes_16 : decode cX13_pastes 16 = .ok (.invokevirtual 61, 3) := by decide +kernel
theorem dX13_pastes_19 : decode cX13_pastes 19 = .ok (.ireturn, 1) := by decide +kernel
theorem dX13_pastes_20 : decode cX13_pastes 20 = .ok (.aload_n 0, 1) := by decide +kernel
theorem dX13_pastes_21 : decode cX13_pastes 21 = .ok (.getfield 16, 3) := by decide +kernel
theorem dX13_pastes_24 : decode cX13_pastes 24 = .ok (.iconst 2, 1) := by decide +kernel
theorem dX13_pastes_25 : decode cX13_pastes 25 = .ok (.iaload, 1) := by decide +kernel
theorem dX13_pastes_26 : decode cX13_pastes 26 = .ok (.ifCond .ne 9, 3) := by decide +kernel
theorem dX13_pastes_29 : decode cX13_pastes 29 = .ok (.aload_n 0, 1) := by decide +kernel
theorem dX13_pastes_30 : decode cX13_pastes 30 = .ok (.iconst 2, 1) := by decide +kernel
theorem dX13_pastes_31 : decode cX13_pastes 31 = .ok (.invokevirtual 61, 3) := by decide +kernel
theorem dX13_pastes_34 : decode cX13_pastes 34 = .ok (.ireturn, 1) := by decide +kernel
theorem dX13_pastes_35 : decode cX13_pastes 35 = .ok (.aload_n 0, 1) := by decide +kernel
theorem dX13_pastes_36 : decode cX13_pastes 36 = .ok (.getfield 16, 3) := by decide +kernel
theorem dX13_pastes_39 : decode cX13_pastes 39 = .ok (.iconst 0, 1) := by decide +kernel
theorem dX13_pastes_40 : decode cX13_pastes 40 = .ok (.iaload, 1) := by decide +kernel
theorem dX13_pastes_41 : decode cX13_pastes 41 = .ok (.aload_n 0, 1) := by decide +kernel
theorem dX13_pastes_42 : decode cX13_pastes 42 = .ok (.getfield 16, 3) := by decide +kernel
theorem dX13_pastes_45 : decode cX13_pastes 45 = .ok (.iconst 2, 1) := by decide +kernel
theorem dX13_pastes_46 : decode cX13_pastes 46 = .ok (.iaload, 1) := by decide +kernel
theorem dX13_pastes_47 : decode cX13_pastes 47 = .ok (.iadd, 1) := by decide +kernel
theorem dX13_pastes_48 : decode cX13_pastes 48 = .ok (.sipush 200, 3) := by decide +kernel
theorem dX13_pastes_51 : decode cX13_pastes 51 = .ok (.if_icmp .le 9, 3) := by decide +kernel
theorem dX13_pastes_54 : decode cX13_pastes 54 = .ok (.aload_n 0, 1) := by decide +kernel
theorem dX13_pastes_55 : decode cX13_pastes 55 = .ok (.iconst 3, 1) := by decide +kernel
theorem dX13_pastes_56 : decode cX13_pastes 56 = .ok (.invokevirtual 61, 3) := by decide +kernel
theorem dX13_pastes_59 : decode cX13_pastes 59 = .ok (.ireturn, 1) := by decide +kernel
theorem dX13_pastes_60 : decode cX13_pastes 60 = .ok (.aload_n 0, 1) := by decide +kernel
theorem dX13_pastes_61 : decode cX13_pastes 61 = .ok (.iload_n 1, 1) := by decide +kernel
theorem dX13_pastes_62 : decode cX13_pastes 62 = .ok (.aload_n 0, 1) := by decide +kernel
theorem dX13_pastes_63 : decode cX13_pastes 63 = .ok (.getfield 16, 3) := by decide +kernel
theorem dX13_pastes_66 : decode cX13_pastes 66 = .ok (.iconst 2, 1) := by decide +kernel
theorem dX13_pastes_67 : decode cX13_pastes 67 = .ok (.iaload, 1) := by decide +kernel
theorem dX13_pastes_68 : decode cX13_pastes 68 = .ok (.invokevirtual 78, 3) := by decide +kernel
theorem dX13_pastes_71 : decode cX13_pastes 71 = .ok (.iconst 0, 1) := by decide +kernel
theorem dX13_pastes_72 : decode cX13_pastes 72 = .ok (.istore_n 2, 1) := by decide +kernel
theorem dX13_pastes_73 : decode cX13_pastes 73 = .ok (.iload_n 2, 1) := by decide +kernel
theorem dX13_pastes_74 : decode cX13_pastes 74 = .ok (.aload_n 0, 1) := by decide +kernel
theorem dX13_pastes_75 : decode cX13_pastes 75 = .ok (.getfield 16, 3) := by decide +kernel
theorem dX13_pastes_78 : decode cX13_pastes 78 = .ok (.iconst 2, 1) := by decide +kernel
theorem dX13_pastes_79 : decode cX13_pastes 79 = .ok (.iaload, 1) := by decide +kernel
theorem dX13_pastes_80 : decode cX13_pastes 80 = .ok (.if_icmp .ge 29, 3) := by decide +kernel
theorem dX13_pastes_83 : decode cX13_pastes 83 = .ok (.aload_n 0, 1) := by decide +kernel
theorem dX13_pastes_84 : decode cX13_pastes 84 = .ok (.getfield 16, 3) := by decide +kernel
theorem dX13_pastes_87 : decode cX13_pastes 87 = .ok (.iconst 4, 1) := by decide +kernel
theorem dX13_pastes_88 : decode cX13_pastes 88 = .ok (.iload_n 1, 1) := by decide +kernel
theorem dX13_pastes_89 : decode cX13_pastes 89 = .ok (.iadd, 1) := by decide +kernel
theorem dX13_pastes_90 : decode cX13_pastes 90 = .ok (.iload_n 2, 1) := by decide +kernel
theorem dX13_pastes_91 : decode cX13_pastes 91 = .ok (.iadd, 1) := by decide +kernel
theorem dX13_pastes_92 : decode cX13_pastes 92 = .ok (.aload_n 0, 1) := by decide +kernel
theorem dX13_pastes_93 : decode cX13_pastes 93 = .ok (.getfield 16, 3) := by decide +kernel
theorem dX13_pastes_96 : decode cX13_pastes 96 = .ok (.sipush 210, 3) := by decide +kernel
theorem dX13_pastes_99 : decode cX13_pastes 99 = .ok (.iload_n 2, 1) := by decide +kernel
theorem dX13_pastes_100 : decode cX13_pastes 100 = .ok (.iadd, 1) := by decide +kernel
theorem dX13_pastes_101 : decode cX13_pastes 101 = .ok (.iaload, 1) := by decide +kernel
theorem dX13_pastes_102 : decode cX13_pastes 102 = .ok (.iastore, 1) := by decide +kernel
theorem dX13_pastes_103 : decode cX13_pastes 103 = .ok (.iinc 2 1, 3) := by decide +kernel
theorem dX13_pastes_106 : decode cX13_pastes 106 = .ok (.goto (-33), 3) := by decide +kernel
theorem dX13_pastes_109 : decode cX13_pastes 109 = .ok (.aload_n 0, 1) := by decide +kernel
theorem dX13_pastes_110 : decode cX13_pastes 110 = .ok (.getfield 16, 3) := by decide +kernel
theorem dX13_pastes_113 : decode cX13_pastes 113 = .ok (.iconst 0, 1) := by decide +kernel
theorem dX13_pastes_114 : decode cX13_pastes 114 = .ok (.iaload, 1) := by decide +kernel
theorem dX13_pastes_115 : decode cX13_pastes 115 = .ok (.ireturn, 1) := by decide +kernel
theorem dX13_paste_0 : decode cX13_paste 0 = .ok (.aload_n 0, 1) := by decide +kernel
theorem dX13_paste_1 : decode cX13_paste 1 = .ok (.invokevirtual 68, 3) := by decide +kernel
theorem dX13_paste_4 : decode cX13_paste 4 = .ok (.aload_n 0, 1) := by decide +kernel
theorem dX13_paste_5 : decode cX13_paste 5 = .ok (.aload_n 0, 1) := by decide +kernel
theorem dX13_paste_6 : decode cX13_paste 6 = .ok (.iload_n 1, 1) := by decide +kernel
theorem dX13_paste_7 : decode cX13_paste 7 = .ok (.invokevirtual 115, 3) := by decide +kernel
theorem dX13_paste_10 : decode cX13_paste 10 = .ok (.invokevirtual 75, 3) := by decide +kernel
theorem dX13_paste_13 : decode cX13_paste 13 = .ok (.ireturn, 1) := by decide +kernel
theorem dX13_marks_0 : decode cX13_marks 0 = .ok (.iload_n 1, 1) := by decide +kernel
theorem dX13_marks_1 : decode cX13_marks 1 = .ok (.iconst 0, 1) := by decide +kernel
theorem dX13_marks_2 : decode cX13_marks 2 = .ok (.aload_n 0, 1) := by decide +kernel
theorem dX13_marks_3 : decode cX13_marks 3 = .ok (.getfield 16, 3) := by decide +kernel
theorem dX13_marks_6 : decode cX13_marks 6 = .ok (.iconst 0, 1) := by decide +kernel
theorem dX13_marks_7 : decode cX13_marks 7 = .ok (.iaload, 1) := by decide +kernel
theorem dX13_marks_8 : decode cX13_marks 8 = .ok (.invokestatic 57, 3) := by decide +kernel
theorem dX13_marks_11 : decode cX13_marks 11 = .ok (.ifCond .ne 9, 3) := by decide +kernel
theorem dX13_marks_14 : decode cX13_marks 14 = .ok (.aload_n 0, 1) := by decide +kernel
theorem dX13_marks_15 : decode cX13_marks 15 = .ok (.iconst 1, 1) := by decide +kernel
theorem dX13_marks_16 : decode cX13_marks 16 = .ok (.invokevirtual 61, 3) := by decide +kernel
theorem dX13_marks_19 : decode cX13_marks 19 = .ok (.ireturn, 1) := by decide +kernel
theorem dX13_marks_20 : decode cX13_marks 20 = .ok (.aload_n 0, 1) := by decide +kernel
theorem dX13_marks_21 : decode cX13_marks 21 = .ok (.iload_n 1, 1) := by decide +kernel
theorem dX13_marks_22 : decode cX13_marks 22 = .ok (.invokevirtual 90, 3) := by decide +kernel
theorem dX13_marks_25 : decode cX13_marks 25 = .ok (.ifCond .lt 5, 3) := by decide +kernel
theorem dX13_marks_28 : decode cX13_marks 28 = .ok (.iconst 0, 1) := by decide +kernel
theorem dX13_marks_29 : decode cX13_marks 29 = .ok (.ireturn, 1) := by decide +kernel
theorem dX13_marks_30 : decode cX13_marks 30 = .ok (.aload_n 0, 1) := by decide +kernel
theorem dX13_marks_31 : decode cX13_marks 31 = .ok (.getfield 16, 3) := by decide +kernel
theorem dX13_marks_34 : decode cX13_marks 34 = .ok (.iconst 1, 1) := by decide +kernel
theorem dX13_marks_35 : decode cX13_marks 35 = .ok (.iaload, 1) := by decide +kernel
theorem dX13_marks_36 : decode cX13_marks 36 = .ok (.bipush 6, 2) := by decide +kernel
theorem dX13_marks_38 : decode cX13_marks 38 = .ok (.if_icmp .ne 9, 3) := by decide +kernel
theorem dX13_marks_41 : decode cX13_marks 41 = .ok (.aload_n 0, 1) := by decide +kernel
theorem dX13_marks_42 : decode cX13_marks 42 = .ok (.iconst 2, 1) := by decide +kernel
theorem dX13_marks_43 : decode cX13_marks 43 = .ok (.invokevirtual 61, 3) := by decide +kernel
theorem dX13_marks_46 : decode cX13_marks 46 = .ok (.ireturn, 1) := by decide +kernel
theorem dX13_marks_47 : decode cX13_marks 47 = .ok (.aload_n 0, 1) := by decide +kernel
theorem dX13_marks_48 : decode cX13_marks 48 = .ok (.getfield 16, 3) := by decide +kernel
theorem dX13_marks_51 : decode cX13_marks 51 = .ok (.iconst 1, 1) := by decide +kernel
theorem dX13_marks_52 : decode cX13_marks 52 = .ok (.iaload, 1) := by decide +kernel
theorem dX13_marks_53 : decode cX13_marks 53 = .ok (.istore_n 2, 1) := by decide +kernel
theorem dX13_marks_54 : decode cX13_marks 54 = .ok (.iload_n 2, 1) := by decide +kernel
theorem dX13_marks_55 : decode cX13_marks 55 = .ok (.ifCond .le 47, 3) := by decide +kernel
theorem dX13_marks_58 : decode cX13_marks 58 = .ok (.aload_n 0, 1) := by decide +kernel
theorem dX13_marks_59 : decode cX13_marks 59 = .ok (.getfield 16, 3) := by decide +kernel
theorem dX13_marks_62 : decode cX13_marks 62 = .ok (.sipush 204, 3) := by decide +kernel
theorem dX13_marks_65 : decode cX13_marks 65 = .ok (.iload_n 2, 1) := by decide +kernel
theorem dX13_marks_66 : decode cX13_marks 66 = .ok (.iadd, 1) := by decide +kernel
theorem dX13_marks_67 : decode cX13_marks 67 = .ok (.iconst 1, 1) := by decide +kernel
theorem dX13_marks_68 : decode cX13_marks 68 = .ok (.isub, 1) := by decide +kernel
theorem dX13_marks_69 : decode cX13_marks 69 = .ok (.iaload, 1) := by decide +kernel
theorem dX13_marks_70 : decode cX13_marks 70 = .ok (.iload_n 1, 1) := by decide +kernel
theorem dX13_marks_71 : decode cX13_marks 71 = .ok (.if_icmp .le 31, 3) := by decide +kernel
theorem dX13_marks_74 : decode cX13_marks 74 = .ok (.aload_n 0, 1) := by decide +kernel
theorem dX13_marks_75 : decode cX13_marks 75 = .ok (.getfield 16, 3) := by decide +kernel
theorem dX13_marks_78 : decode cX13_marks 78 = .ok (.sipush 204, 3) := by decide +kernel
theorem dX13_marks_81 : decode cX13_marks 81 = .ok (.iload_n 2, 1) := by decide +kernel
theorem dX13_marks_82 : decode cX13_marks 82 = .ok (.iadd, 1) := by decide +kernel
theorem dX13_marks_83 : decode cX13_marks 83 = .ok (.aload_n 0, 1) := by decide +kernel
theorem dX13_marks_84 : decode cX13_marks 84 = .ok (.getfield 16, 3) := by decide +kernel
theorem dX13_marks_87 : decode cX13_marks 87 = .ok (.sipush 204, 3) := by decide +kernel
theorem dX13_marks_90 : decode cX13_marks 90 = .ok (.iload_n 2, 1) := by decide +kernel
theorem dX13_marks_91 : decode cX13_marks 91 = .ok (.iadd, 1) := by decide +kernel
theorem dX13_marks_92 : decode cX13_marks 92 = .ok (.iconst 1, 1) := by decide +kernel
theorem dX13_marks_93 : decode cX13_marks 93 = .ok (.isub, 1) := by decide +kernel
theorem dX13_marks_94 : decode cX13_marks 94 = .ok (.iaload, 1) := by decide +kernel
theorem dX13_marks_95 : decode cX13_marks 95 = .ok (.iastore, 1) := by decide +kernel
theorem dX13_marks_96 : decode cX13_marks 96 = .ok (.iinc 2 (-1), 3) := by decide +kernel
theorem dX13_marks_99 : decode cX13_marks 99 = .ok (.goto (-45), 3) := by decide +kernel
theorem dX13_marks_102 : decode cX13_marks 102 = .ok (.aload_n 0, 1) := by decide +kernel
theorem dX13_marks_103 : decode cX13_marks 103 = .ok (.getfield 16, 3) := by decide +kernel
theorem dX13_marks_106 : decode cX13_marks 106 = .ok (.sipush 204, 3) := by decide +kernel
theorem dX13_marks_109 : decode cX13_marks 109 = .ok (.iload_n 2, 1) := by decide +kernel
theorem dX13_marks_110 : decode cX13_marks 110 = .ok (.iadd, 1) := by decide +kernel
theorem dX13_marks_111 : decode cX13_marks 111 = .ok (.iload_n 1, 1) := by decide +kernel
theorem dX13_marks_112 : decode cX13_marks 112 = .ok (.iastore, 1) := by decide +kernel
theorem dX13_marks_113 : decode cX13_marks 113 = .ok (.aload_n 0, 1) := by decide +kernel
theorem dX13_marks_114 : decode cX13_marks 114 = .ok (.getfield 16, 3) := by decide +kernel
theorem dX13_marks_117 : decode cX13_marks 117 = .ok (.iconst 1, 1) := by decide +kernel
theorem dX13_marks_118 : decode cX13_marks 118 = .ok (.dup2, 1) := by decide +kernel
theorem dX13_marks_119 : decode cX13_marks 119 = .ok (.iaload, 1) := by decide +kernel
theorem dX13_marks_120 : decode cX13_marks 120 = .ok (.iconst 1, 1) := by decide +kernel
theorem dX13_marks_121 : decode cX13_marks 121 = .ok (.iadd, 1) := by decide +kernel
theorem dX13_marks_122 : decode cX13_marks 122 = .ok (.iastore, 1) := by decide +kernel
theorem dX13_marks_123 : decode cX13_marks 123 = .ok (.iconst 1, 1) := by decide +kernel
theorem dX13_marks_124 : decode cX13_marks 124 = .ok (.ireturn, 1) := by decide +kernel
theorem dX13_addMarker_0 : decode cX13_addMarker 0 = .ok (.aload_n 0, 1) := by decide +kernel
theorem dX13_addMarker_1 : decode cX13_addMarker 1 = .ok (.invokevirtual 68, 3) := by decide +kernel
theorem dX13_addMarker_4 : decode cX13_addMarker 4 = .ok (.aload_n 0, 1) := by decide +kernel
theorem dX13_addMarker_5 : decode cX13_addMarker 5 = .ok (.aload_n 0, 1) := by decide +kernel
theorem dX13_addMarker_6 : decode cX13_addMarker 6 = .ok (.iload_n 1, 1) := by decide +kernel
theorem dX13_addMarker_7 : decode cX13_addMarker 7 = .ok (.invokevirtual 118, 3) := by decide +kernel
theorem dX13_addMarker_10 : decode cX13_addMarker 10 = .ok (.invokevirtual 75, 3) := by decide +kernel
theorem dX13_addMarker_13 : decode cX13_addMarker 13 = .ok (.iconst 1, 1) := by decide +kernel
theorem dX13_addMarker_14 : decode cX13_addMarker 14 = .ok (.if_icmp .ne 7, 3) := by decide +kernel
theorem dX13_addMarker_17 : decode cX13_addMarker 17 = .ok (.iconst 1, 1) := by decide +kernel
theorem dX13_addMarker_18 : decode cX13_addMarker 18 = .ok (.goto 4, 3) := by decide +kernel
theorem dX13_addMarker_21 : decode cX13_addMarker 21 = .ok (.iconst 0, 1) := by decide +kernel
theorem dX13_addMarker_22 : decode cX13_addMarker 22 = .ok (.ireturn, 1) := by decide +kernel
theorem dX13_unmarks_0 : decode cX13_unmarks 0 = .ok (.aload_n 0, 1) := by decide +kernel
theorem dX13_unmarks_1 : decode cX13_unmarks 1 = .ok (.iload_n 1, 1) := by decide +kernel
theorem dX13_unmarks_2 : decode cX13_unmarks 2 = .ok (.invokevirtual 90, 3) := by decide +kernel
theorem dX13_unmarks_5 : decode cX13_unmarks 5 = .ok (.istore_n 2, 1) := by decide +kernel
theorem dX13_unmarks_6 : decode cX13_unmarks 6 = .ok (.iload_n 2, 1) := by decide +kernel
theorem dX13_unmarks_7 : decode cX13_unmarks 7 = .ok (.ifCond .ge 5, 3) := by decide +kernel
theorem dX13_unmarks_10 : decode cX13_unmarks 10 = .ok (.iconst 0, 1) := by decide +kernel
theorem dX13_unmarks_11 : decode cX13_unmarks 11 = .ok (.ireturn, 1) := by decide +kernel
theorem dX13_unmarks_12 : decode cX13_unmarks 12 = .ok (.aload_n 0, 1) := by decide +kernel
theorem dX13_unmarks_13 : decode cX13_unmarks 13 = .ok (.iload_n 2, 1) := by decide +kernel
theorem dX13_unmarks_14 : decode cX13_unmarks 14 = .ok (.invokevirtual 93, 3) := by decide +kernel
theorem dX13_unmarks_17 : decode cX13_unmarks 17 = .ok (.iconst 1, 1) := by decide +kernel
theorem dX13_unmarks_18 : decode cX13_unmarks 18 = .ok (.ireturn, 1) := by decide +kernel
theorem dX13_removeMarker_0 : decode cX13_removeMarker 0 = .ok (.aload_n 0, 1) := by decide +kernel
theorem dX13_removeMarker_1 : decode cX13_removeMarker 1 = .ok (.invokevirtual 68, 3) := by decide +kernel
theorem dX13_removeMarker_4 : decode cX13_removeMarker 4 = .ok (.aload_n 0, 1) := by decide +kernel
theorem dX13_removeMarker_5 : decode cX13_removeMarker 5 = .ok (.aload_n 0, 1) := by decide +kernel
theorem dX13_removeMarker_6 : decode cX13_removeMarker 6 = .ok (.iload_n 1, 1) := by decide +kernel
theorem dX13_removeMarker_7 : decode cX13_removeMarker 7 = .ok (.invokevirtual 121, 3) := by decide +kernel
theorem dX13_removeMarker_10 : decode cX13_removeMarker 10 = .ok (.invokevirtual 75, 3) := by decide +kernel
theorem dX13_removeMarker_13 : decode cX13_removeMarker 13 = .ok (.iconst 1, 1) := by decide +kernel
theorem dX13_removeMarker_14 : decode cX13_removeMarker 14 = .ok (.if_icmp .ne 7, 3) := by decide +kernel
theorem dX13_removeMarker_17 : decode cX13_removeMarker 17 = .ok (.iconst 1, 1) := by decide +kernel
theorem dX13_removeMarker_18 : decode cX13_removeMarker 18 = .ok (.goto 4, 3) := by decide +kernel
theorem dX13_removeMarker_21 : decode cX13_removeMarker 21 = .ok (.iconst 0, 1) := by decide +kernel
theorem dX13_removeMarker_22 : decode cX13_removeMarker 22 = .ok (.ireturn, 1) := by decide +kernel
theorem dX13_duration_0 : decode cX13_duration 0 = .ok (.aload_n 0, 1) := by decide +kernel
theorem dX13_duration_1 : decode cX13_duration 1 = .ok (.iconst 0, 1) := by decide +kernel
theorem dX13_duration_2 : decode cX13_duration 2 = .ok (.putfield 47, 3) := by decide +kernel
theorem dX13_duration_5 : decode cX13_duration 5 = .ok (.aload_n 0, 1) := by decide +kernel
theorem dX13_duration_6 : decode cX13_duration 6 = .ok (.getfield 16, 3) := by decide +kernel
theorem dX13_duration_9 : decode cX13_duration 9 = .ok (.iconst 0, 1) := by decide +kernel
theorem dX13_duration_10 : decode cX13_duration 10 = .ok (.iaload, 1) := by decide +kernel
theorem dX13_duration_11 : decode cX13_duration 11 = .ok (.ireturn, 1) := by decide +kernel
theorem dX13_isTick_0 : decode cX13_isTick 0 = .ok (.iload_n 1, 1) := by decide +kernel
theorem dX13_isTick_1 : decode cX13_isTick 1 = .ok (.iconst 0, 1) := by decide +kernel
theorem dX13_isTick_2 : decode cX13_isTick 2 = .ok (.aload_n 0, 1) := by decide +kernel
theorem dX13_isTick_3 : decode cX13_isTick 3 = .ok (.getfield 16, 3) := by decide +kernel
theorem dX13_isTick_6 : decode cX13_isTick 6 = .ok (.iconst 0, 1) := by decide +kernel
theorem dX13_isTick_7 : decode cX13_isTick 7 = .ok (.iaload, 1) := by decide +kernel
theorem dX13_isTick_8 : decode cX13_isTick 8 = .ok (.iconst 1, 1) := by decide +kernel
theorem dX13_isTick_9 : decode cX13_isTick 9 = .ok (.isub, 1) := by decide +kernel
theorem dX13_isTick_10 : decode cX13_isTick 10 = .ok (.invokestatic 57, 3) := by decide +kernel
theorem dX13_isTick_13 : decode cX13_isTick 13 = .ok (.ireturn, 1) := by decide +kernel
theorem dX13_levelAt_0 : decode cX13_levelAt 0 = .ok (.aload_n 0, 1) := by decide +kernel
theorem dX13_levelAt_1 : decode cX13_levelAt 1 = .ok (.aload_n 0, 1) := by decide +kernel
theorem dX13_levelAt_2 : decode cX13_levelAt 2 = .ok (.iload_n 1, 1) := by decide +kernel
theorem dX13_levelAt_3 : decode cX13_levelAt 3 = .ok (.invokevirtual 124, 3) := by decide +kernel
theorem dX13_levelAt_6 : decode cX13_levelAt 6 = .ok (.ifCond .eq 7, 3) := by decide +kernel
theorem dX13_levelAt_9 : decode cX13_levelAt 9 = .ok (.iconst 0, 1) := by decide +kernel
theorem dX13_levelAt_10 : decode cX13_levelAt 10 = .ok (.goto 4, 3) := by decide +kernel
theorem dX13_levelAt_13 : decode cX13_levelAt 13 = .ok (.iconst 1, 1) := by decide +kernel
theorem dX13_levelAt_14 : decode cX13_levelAt 14 = .ok (.putfield 47, 3) := by decide +kernel
theorem dX13_levelAt_17 : decode cX13_levelAt 17 = .ok (.aload_n 0, 1) := by decide +kernel
theorem dX13_levelAt_18 : decode cX13_levelAt 18 = .ok (.getfield 47, 3) := by decide +kernel
theorem dX13_levelAt_21 : decode cX13_levelAt 21 = .ok (.ifCond .ne 11, 3) := by decide +kernel
theorem dX13_levelAt_24 : decode cX13_levelAt 24 = .ok (.aload_n 0, 1) := by decide +kernel
theorem dX13_levelAt_25 : decode cX13_levelAt 25 = .ok (.iload_n 1, 1) := by decide +kernel
theorem dX13_levelAt_26 : decode cX13_levelAt 26 = .ok (.invokevirtual 65, 3) := by decide +kernel
theorem dX13_levelAt_29 : decode cX13_levelAt 29 = .ok (.goto 4, 3) := by decide +kernel
theorem dX13_levelAt_32 : decode cX13_levelAt 32 = .ok (.iconst 0, 1) := by decide +kernel
theorem dX13_levelAt_33 : decode cX13_levelAt 33 = .ok (.ireturn, 1) := by decide +kernel
theorem dX13_isStart_0 : decode cX13_isStart 0 = .ok (.iload_n 1, 1) := by decide +kernel
theorem dX13_isStart_1 : decode cX13_isStart 1 = .ok (.ifCond .eq 18, 3) := by decide +kernel
theorem dX13_isStart_4 : decode cX13_isStart 4 = .ok (.aload_n 0, 1) := by decide +kernel
theorem dX13_isStart_5 : decode cX13_isStart 5 = .ok (.iload_n 1, 1) := by decide +kernel
theorem dX13_isStart_6 : decode cX13_isStart 6 = .ok (.invokevirtual 65, 3) := by decide +kernel
theorem dX13_isStart_9 : decode cX13_isStart 9 = .ok (.aload_n 0, 1) := by decide +kernel
theorem dX13_isStart_10 : decode cX13_isStart 10 = .ok (.iload_n 1, 1) := by decide +kernel
theorem dX13_isStart_11 : decode cX13_isStart 11 = .ok (.iconst 1, 1) := by decide +kernel
theorem dX13_isStart_12 : decode cX13_isStart 12 = .ok (.isub, 1) := by decide +kernel
theorem dX13_isStart_13 : decode cX13_isStart 13 = .ok (.invokevirtual 65, 3) := by decide +kernel
theorem dX13_isStart_16 : decode cX13_isStart 16 = .ok (.if_icmp .eq 7, 3) := by decide +kernel
theorem dX13_isStart_19 : decode cX13_isStart 19 = .ok (.iconst 1, 1) := by decide +kernel
theorem dX13_isStart_20 : decode cX13_isStart 20 = .ok (.goto 4, 3) := by decide +kernel
theorem dX13_isStart_23 : decode cX13_isStart 23 = .ok (.iconst 0, 1) := by decide +kernel
theorem dX13_isStart_24 : decode cX13_isStart 24 = .ok (.ireturn, 1) := by decide +kernel
theorem dX13_runs_0 : decode cX13_runs 0 = .ok (.iconst 0, 1) := by decide +kernel
theorem dX13_runs_1 : decode cX13_runs 1 = .ok (.istore_n 1, 1) := by decide +kernel
theorem dX13_runs_2 : decode cX13_runs 2 = .ok (.iconst 0, 1) := by decide +kernel
theorem dX13_runs_3 : decode cX13_runs 3 = .ok (.istore_n 2, 1) := by decide +kernel
theorem dX13_runs_4 : decode cX13_runs 4 = .ok (.iload_n 2, 1) := by decide +kernel
theorem dX13_runs_5 : decode cX13_runs 5 = .ok (.aload_n 0, 1) := by decide +kernel
theorem dX13_runs_6 : decode cX13_runs 6 = .ok (.getfield 16, 3) := by decide +kernel
theorem dX13_runs_9 : decode cX13_runs 9 = .ok (.iconst 0, 1) := by decide +kernel
theorem dX13_runs_10 : decode cX13_runs 10 = .ok (.iaload, 1) := by decide +kernel
theorem dX13_runs_11 : decode cX13_runs 11 = .ok (.if_icmp .ge 25, 3) := by decide +kernel
theorem dX13_runs_14 : decode cX13_runs 14 = .ok (.iload_n 1, 1) := by decide +kernel
theorem dX13_runs_15 : decode cX13_runs 15 = .ok (.aload_n 0, 1) := by decide +kernel
theorem dX13_runs_16 : decode cX13_runs 16 = .ok (.iload_n 2, 1) := by decide +kernel
theorem dX13_runs_17 : decode cX13_runs 17 = .ok (.invokevirtual 128, 3) := by decide +kernel
theorem dX13_runs_20 : decode cX13_runs 20 = .ok (.ifCond .eq 7, 3) := by decide +kernel
theorem dX13_runs_23 : decode cX13_runs 23 = .ok (.iconst 1, 1) := by decide +kernel
theorem dX13_runs_24 : decode cX13_runs 24 = .ok (.goto 4, 3) := by decide +kernel
theorem dX13_runs_27 : decode cX13_runs 27 = .ok (.iconst 0, 1) := by decide +kernel
theorem dX13_runs_28 : decode cX13_runs 28 = .ok (.iadd, 1) := by decide +kernel
theorem dX13_runs_29 : decode cX13_runs 29 = .ok (.istore_n 1, 1) := by decide +kernel
theorem dX13_runs_30 : decode cX13_runs 30 = .ok (.iinc 2 1, 3) := by decide +kernel
theorem dX13_runs_33 : decode cX13_runs 33 = .ok (.goto (-29), 3) := by decide +kernel
theorem dX13_runs_36 : decode cX13_runs 36 = .ok (.iload_n 1, 1) := by decide +kernel
theorem dX13_runs_37 : decode cX13_runs 37 = .ok (.ireturn, 1) := by decide +kernel
theorem dX13_runCount_0 : decode cX13_runCount 0 = .ok (.aload_n 0, 1) := by decide +kernel
theorem dX13_runCount_1 : decode cX13_runCount 1 = .ok (.iconst 0, 1) := by decide +kernel
theorem dX13_runCount_2 : decode cX13_runCount 2 = .ok (.putfield 47, 3) := by decide +kernel
theorem dX13_runCount_5 : decode cX13_runCount 5 = .ok (.aload_n 0, 1) := by decide +kernel
theorem dX13_runCount_6 : decode cX13_runCount 6 = .ok (.invokevirtual 131, 3) := by decide +kernel
theorem dX13_runCount_9 : decode cX13_runCount 9 = .ok (.ireturn, 1) := by decide +kernel
theorem dX13_startOf_0 : decode cX13_startOf 0 = .ok (.aload_n 0, 1) := by decide +kernel
theorem dX13_startOf_1 : decode cX13_startOf 1 = .ok (.iconst 0, 1) := by decide +kernel
theorem dX13_startOf_2 : decode cX13_startOf 2 = .ok (.putfield 47, 3) := by decide +kernel
theorem dX13_startOf_5 : decode cX13_startOf 5 = .ok (.iconst 0, 1) := by decide +kernel
theorem dX13_startOf_6 : decode cX13_startOf 6 = .ok (.istore_n 2, 1) := by decide +kernel
theorem dX13_startOf_7 : decode cX13_startOf 7 = .ok (.iconst 0, 1) := by decide +kernel
theorem dX13_startOf_8 : decode cX13_startOf 8 = .ok (.istore_n 3, 1) := by decide +kernel
theorem dX13_startOf_9 : decode cX13_startOf 9 = .ok (.iload_n 3, 1) := by decide +kernel
theorem dX13_startOf_10 : decode cX13_startOf 10 = .ok (.aload_n 0, 1) := by decide +kernel
theorem dX13_startOf_11 : decode cX13_startOf 11 = .ok (.getfield 16, 3) := by decide +kernel
theorem dX13_startOf_14 : decode cX13_startOf 14 = .ok (.iconst 0, 1) := by decide +kernel
theorem dX13_startOf_15 : decode cX13_startOf 15 = .ok (.iaload, 1) := by decide +kernel
theorem dX13_startOf_16 : decode cX13_startOf 16 = .ok (.if_icmp .ge 30, 3) := by decide +kernel
theorem dX13_startOf_19 : decode cX13_startOf 19 = .ok (.aload_n 0, 1) := by decide +kernel
theorem dX13_startOf_20 : decode cX13_startOf 20 = .ok (.iload_n 3, 1) := by decide +kernel
theorem dX13_startOf_21 : decode cX13_startOf 21 = .ok (.invokevirtual 128, 3) := by decide +kernel
theorem dX13_startOf_24 : decode cX13_startOf 24 = .ok (.ifCond .ne 6, 3) := by decide +kernel
theorem dX13_startOf_27 : decode cX13_startOf 27 = .ok (.goto 13, 3) := by decide +kernel
theorem dX13_startOf_30 : decode cX13_startOf 30 = .ok (.iload_n 2, 1) := by decide +kernel
theorem dX13_startOf_31 : decode cX13_startOf 31 = .ok (.iload_n 1, 1) := by decide +kernel
theorem dX13_startOf_32 : decode cX13_startOf 32 = .ok (.if_icmp .ne 5, 3) := by decide +kernel
theorem dX13_startOf_35 : decode cX13_startOf 35 = .ok (.iload_n 3, 1) := by decide +kernel
theorem dX13_startOf_36 : decode cX13_startOf 36 = .ok (.ireturn, 1) := by decide +kernel
theorem dX13_startOf_37 : decode cX13_startOf 37 = .ok (.iinc 2 1, 3) := by decide +kernel
theorem dX13_startOf_40 : decode cX13_startOf 40 = .ok (.iinc 3 1, 3) := by decide +kernel
theorem dX13_startOf_43 : decode cX13_startOf 43 = .ok (.goto (-34), 3) := by decide +kernel
theorem dX13_startOf_46 : decode cX13_startOf 46 = .ok (.aload_n 0, 1) := by decide +kernel
theorem dX13_startOf_47 : decode cX13_startOf 47 = .ok (.iconst 1, 1) := by decide +kernel
theorem dX13_startOf_48 : decode cX13_startOf 48 = .ok (.invokevirtual 61, 3) := by decide +kernel
theorem dX13_startOf_51 : decode cX13_startOf 51 = .ok (.ireturn, 1) := by decide +kernel
theorem dX13_lengthFrom_0 : decode cX13_lengthFrom 0 = .ok (.iconst 1, 1) := by decide +kernel
theorem dX13_lengthFrom_1 : decode cX13_lengthFrom 1 = .ok (.istore_n 2, 1) := by decide +kernel
theorem dX13_lengthFrom_2 : decode cX13_lengthFrom 2 = .ok (.iload_n 1, 1) := by decide +kernel
theorem dX13_lengthFrom_3 : decode cX13_lengthFrom 3 = .ok (.iload_n 2, 1) := by decide +kernel
theorem dX13_lengthFrom_4 : decode cX13_lengthFrom 4 = .ok (.iadd, 1) := by decide +kernel
theorem dX13_lengthFrom_5 : decode cX13_lengthFrom 5 = .ok (.aload_n 0, 1) := by decide +kernel
theorem dX13_lengthFrom_6 : decode cX13_lengthFrom 6 = .ok (.getfield 16, 3) := by decide +kernel
theorem dX13_lengthFrom_9 : decode cX13_lengthFrom 9 = .ok (.iconst 0, 1) := by decide +kernel
theorem dX13_lengthFrom_10 : decode cX13_lengthFrom 10 = .ok (.iaload, 1) := by decide +kernel
theorem dX13_lengthFrom_11 : decode cX13_lengthFrom 11 = .ok (.if_icmp .ge 19, 3) := by decide +kernel
theorem dX13_lengthFrom_14 : decode cX13_lengthFrom 14 = .ok (.aload_n 0, 1) := by decide +kernel
theorem dX13_lengthFrom_15 : decode cX13_lengthFrom 15 = .ok (.iload_n 1, 1) := by decide +kernel
theorem dX13_lengthFrom_16 : decode cX13_lengthFrom 16 = .ok (.iload_n 2, 1) := by decide +kernel
theorem dX13_lengthFrom_17 : decode cX13_lengthFrom 17 = .ok (.iadd, 1) := by decide +kernel
theorem dX13_lengthFrom_18 : decode cX13_lengthFrom 18 = .ok (.invokevirtual 128, 3) := by decide +kernel
theorem dX13_lengthFrom_21 : decode cX13_lengthFrom 21 = .ok (.ifCond .ne 9, 3) := by decide +kernel
theorem dX13_lengthFrom_24 : decode cX13_lengthFrom 24 = .ok (.iinc 2 1, 3) := by decide +kernel
theorem dX13_lengthFrom_27 : decode cX13_lengthFrom 27 = .ok (.goto (-25), 3) := by decide +kernel
theorem dX13_lengthFrom_30 : decode cX13_lengthFrom 30 = .ok (.iload_n 2, 1) := by decide +kernel
theorem dX13_lengthFrom_31 : decode cX13_lengthFrom 31 = .ok (.ireturn, 1) := by decide +kernel
theorem dX13_runStart_0 : decode cX13_runStart 0 = .ok (.aload_n 0, 1) := by decide +kernel
theorem dX13_runStart_1 : decode cX13_runStart 1 = .ok (.iload_n 1, 1) := by decide +kernel
theorem dX13_runStart_2 : decode cX13_runStart 2 = .ok (.invokevirtual 135, 3) := by decide +kernel
theorem dX13_runStart_5 : decode cX13_runStart 5 = .ok (.ireturn, 1) := by decide +kernel
theorem dX13_runLength_0 : decode cX13_runLength 0 = .ok (.aload_n 0, 1) := by decide +kernel
theorem dX13_runLength_1 : decode cX13_runLength 1 = .ok (.iload_n 1, 1) := by decide +kernel
theorem dX13_runLength_2 : decode cX13_runLength 2 = .ok (.invokevirtual 135, 3) := by decide +kernel
theorem dX13_runLength_5 : decode cX13_runLength 5 = .ok (.istore_n 2, 1) := by decide +kernel
theorem dX13_runLength_6 : decode cX13_runLength 6 = .ok (.aload_n 0, 1) := by decide +kernel
theorem dX13_runLength_7 : decode cX13_runLength 7 = .ok (.getfield 47, 3) := by decide +kernel
theorem dX13_runLength_10 : decode cX13_runLength 10 = .ok (.ifCond .ne 11, 3) := by decide +kernel
theorem dX13_runLength_13 : decode cX13_runLength 13 = .ok (.aload_n 0, 1) := by decide +kernel
theorem dX13_runLength_14 : decode cX13_runLength 14 = .ok (.iload_n 2, 1) := by decide +kernel
theorem dX13_runLength_15 : decode cX13_runLength 15 = .ok (.invokevirtual 138, 3) := by decide +kernel
theorem dX13_runLength_18 : decode cX13_runLength 18 = .ok (.goto 4, 3) := by decide +kernel
theorem dX13_runLength_21 : decode cX13_runLength 21 = .ok (.iconst 0, 1) := by decide +kernel
theorem dX13_runLength_22 : decode cX13_runLength 22 = .ok (.ireturn, 1) := by decide +kernel
theorem dX13_runLevel_0 : decode cX13_runLevel 0 = .ok (.aload_n 0, 1) := by decide +kernel
theorem dX13_runLevel_1 : decode cX13_runLevel 1 = .ok (.iload_n 1, 1) := by decide +kernel
theorem dX13_runLevel_2 : decode cX13_runLevel 2 = .ok (.invokevirtual 135, 3) := by decide +kernel
theorem dX13_runLevel_5 : decode cX13_runLevel 5 = .ok (.istore_n 2, 1) := by decide +kernel
theorem dX13_runLevel_6 : decode cX13_runLevel 6 = .ok (.aload_n 0, 1) := by decide +kernel
theorem dX13_runLevel_7 : decode cX13_runLevel 7 = .ok (.getfield 47, 3) := by decide +kernel
theorem dX13_runLevel_10 : decode cX13_runLevel 10 = .ok (.ifCond .ne 11, 3) := by decide +kernel
theorem dX13_runLevel_13 : decode cX13_runLevel 13 = .ok (.aload_n 0, 1) := by decide +kernel
theorem dX13_runLevel_14 : decode cX13_runLevel 14 = .ok (.iload_n 2, 1) := by decide +kernel
theorem dX13_runLevel_15 : decode cX13_runLevel 15 = .ok (.invokevirtual 65, 3) := by decide +kernel
theorem dX13_runLevel_18 : decode cX13_runLevel 18 = .ok (.goto 4, 3) := by decide +kernel
theorem dX13_runLevel_21 : decode cX13_runLevel 21 = .ok (.iconst 0, 1) := by decide +kernel
theorem dX13_runLevel_22 : decode cX13_runLevel 22 = .ok (.ireturn, 1) := by decide +kernel
theorem dX13_ticksOf_0 : decode cX13_ticksOf 0 = .ok (.iconst 0, 1) := by decide +kernel
theorem dX13_ticksOf_1 : decode cX13_ticksOf 1 = .ok (.istore_n 2, 1) := by decide +kernel
theorem dX13_ticksOf_2 : decode cX13_ticksOf 2 = .ok (.iconst 0, 1) := by decide +kernel
theorem dX13_ticksOf_3 : decode cX13_ticksOf 3 = .ok (.istore_n 3, 1) := by decide +kernel
theorem dX13_ticksOf_4 : decode cX13_ticksOf 4 = .ok (.iload_n 3, 1) := by decide +kernel
theorem dX13_ticksOf_5 : decode cX13_ticksOf 5 = .ok (.aload_n 0, 1) := by decide +kernel
theorem dX13_ticksOf_6 : decode cX13_ticksOf 6 = .ok (.getfield 16, 3) := by decide +kernel
theorem dX13_ticksOf_9 : decode cX13_ticksOf 9 = .ok (.iconst 0, 1) := by decide +kernel
theorem dX13_ticksOf_10 : decode cX13_ticksOf 10 = .ok (.iaload, 1) := by decide +kernel
theorem dX13_ticksOf_11 : decode cX13_ticksOf 11 = .ok (.if_icmp .ge 26, 3) := by decide +kernel
theorem dX13_ticksOf_14 : decode cX13_ticksOf 14 = .ok (.iload_n 2, 1) := by decide +kernel
theorem dX13_ticksOf_15 : decode cX13_ticksOf 15 = .ok (.aload_n 0, 1) := by decide +kernel
theorem dX13_ticksOf_16 : decode cX13_ticksOf 16 = .ok (.iload_n 3, 1) := by decide +kernel
theorem dX13_ticksOf_17 : decode cX13_ticksOf 17 = .ok (.invokevirtual 65, 3) := by decide +kernel
theorem dX13_ticksOf_20 : decode cX13_ticksOf 20 = .ok (.iload_n 1, 1) := by decide +kernel
theorem dX13_ticksOf_21 : decode cX13_ticksOf 21 = .ok (.if_icmp .ne 7, 3) := by decide +kernel
theorem dX13_ticksOf_24 : decode cX13_ticksOf 24 = .ok (.iconst 1, 1) := by decide +kernel
theorem dX13_ticksOf_25 : decode cX13_ticksOf 25 = .ok (.goto 4, 3) := by decide +kernel
theorem dX13_ticksOf_28 : decode cX13_ticksOf 28 = .ok (.iconst 0, 1) := by decide +kernel
theorem dX13_ticksOf_29 : decode cX13_ticksOf 29 = .ok (.iadd, 1) := by decide +kernel
theorem dX13_ticksOf_30 : decode cX13_ticksOf 30 = .ok (.istore_n 2, 1) := by decide +kernel
theorem dX13_ticksOf_31 : decode cX13_ticksOf 31 = .ok (.iinc 3 1, 3) := by decide +kernel
theorem dX13_ticksOf_34 : decode cX13_ticksOf 34 = .ok (.goto (-30), 3) := by decide +kernel
theorem dX13_ticksOf_37 : decode cX13_ticksOf 37 = .ok (.iload_n 2, 1) := by decide +kernel
theorem dX13_ticksOf_38 : decode cX13_ticksOf 38 = .ok (.ireturn, 1) := by decide +kernel
theorem dX13_restTicks_0 : decode cX13_restTicks 0 = .ok (.aload_n 0, 1) := by decide +kernel
theorem dX13_restTicks_1 : decode cX13_restTicks 1 = .ok (.iconst 0, 1) := by decide +kernel
theorem dX13_restTicks_2 : decode cX13_restTicks 2 = .ok (.putfield 47, 3) := by decide +kernel
theorem dX13_restTicks_5 : decode cX13_restTicks 5 = .ok (.aload_n 0, 1) := by decide +kernel
theorem dX13_restTicks_6 : decode cX13_restTicks 6 = .ok (.iconst 0, 1) := by decide +kernel
theorem dX13_restTicks_7 : decode cX13_restTicks 7 = .ok (.invokevirtual 141, 3) := by decide +kernel
theorem dX13_restTicks_10 : decode cX13_restTicks 10 = .ok (.ireturn, 1) := by decide +kernel
theorem dX13_humTicks_0 : decode cX13_humTicks 0 = .ok (.aload_n 0, 1) := by decide +kernel
theorem dX13_humTicks_1 : decode cX13_humTicks 1 = .ok (.iconst 0, 1) := by decide +kernel
theorem dX13_humTicks_2 : decode cX13_humTicks 2 = .ok (.putfield 47, 3) := by decide +kernel
theorem dX13_humTicks_5 : decode cX13_humTicks 5 = .ok (.aload_n 0, 1) := by decide +kernel
theorem dX13_humTicks_6 : decode cX13_humTicks 6 = .ok (.getfield 16, 3) := by decide +kernel
theorem dX13_humTicks_9 : decode cX13_humTicks 9 = .ok (.iconst 0, 1) := by decide +kernel
theorem dX13_humTicks_10 : decode cX13_humTicks 10 = .ok (.iaload, 1) := by decide +kernel
theorem dX13_humTicks_11 : decode cX13_humTicks 11 = .ok (.aload_n 0, 1) := by decide +kernel
theorem dX13_humTicks_12 : decode cX13_humTicks 12 = .ok (.iconst 0, 1) := by decide +kernel
theorem dX13_humTicks_13 : decode cX13_humTicks 13 = .ok (.invokevirtual 141, 3) := by decide +kernel
theorem dX13_humTicks_16 : decode cX13_humTicks 16 = .ok (.isub, 1) := by decide +kernel
theorem dX13_humTicks_17 : decode cX13_humTicks 17 = .ok (.ireturn, 1) := by decide +kernel
theorem dX13_ticksAtLevel_0 : decode cX13_ticksAtLevel 0 = .ok (.aload_n 0, 1) := by decide +kernel
theorem dX13_ticksAtLevel_1 : decode cX13_ticksAtLevel 1 = .ok (.iload_n 1, 1) := by decide +kernel
theorem dX13_ticksAtLevel_2 : decode cX13_ticksAtLevel 2 = .ok (.iconst 0, 1) := by decide +kernel
theorem dX13_ticksAtLevel_3 : decode cX13_ticksAtLevel 3 = .ok (.bipush 9, 2) := by decide +kernel
theorem dX13_ticksAtLevel_5 : decode cX13_ticksAtLevel 5 = .ok (.invokestatic 57, 3) := by decide +kernel
theorem dX13_ticksAtLevel_8 : decode cX13_ticksAtLevel 8 = .ok (.ifCond .eq 7, 3) := by decide +kernel
theorem dX13_ticksAtLevel_11 : decode cX13_ticksAtLevel 11 = .ok (.iconst 0, 1) := by decide +kernel
theorem dX13_ticksAtLevel_12 : decode cX13_ticksAtLevel 12 = .ok (.goto 4, 3) := by decide +kernel
theorem dX13_ticksAtLevel_15 : decode cX13_ticksAtLevel 15 = .ok (.iconst 1, 1) := by decide +kernel
theorem dX13_ticksAtLevel_16 : decode cX13_ticksAtLevel 16 = .ok (.putfield 47, 3) := by decide +kernel
theorem dX13_ticksAtLevel_19 : decode cX13_ticksAtLevel 19 = .ok (.aload_n 0, 1) := by decide +kernel
theorem dX13_ticksAtLevel_20 : decode cX13_ticksAtLevel 20 = .ok (.getfield 47, 3) := by decide +kernel
theorem dX13_ticksAtLevel_23 : decode cX13_ticksAtLevel 23 = .ok (.ifCond .ne 11, 3) := by decide +kernel
theorem dX13_ticksAtLevel_26 : decode cX13_ticksAtLevel 26 = .ok (.aload_n 0, 1) := by decide +kernel
theorem dX13_ticksAtLevel_27 : decode cX13_ticksAtLevel 27 = .ok (.iload_n 1, 1) := by decide +kernel
theorem dX13_ticksAtLevel_28 : decode cX13_ticksAtLevel 28 = .ok (.invokevirtual 141, 3) := by decide +kernel
theorem dX13_ticksAtLevel_31 : decode cX13_ticksAtLevel 31 = .ok (.goto 4, 3) := by decide +kernel
theorem dX13_ticksAtLevel_34 : decode cX13_ticksAtLevel 34 = .ok (.iconst 0, 1) := by decide +kernel
theorem dX13_ticksAtLevel_35 : decode cX13_ticksAtLevel 35 = .ok (.ireturn, 1) := by decide +kernel
theorem dX13_sum_0 : decode cX13_sum 0 = .ok (.iconst 0, 1) := by decide +kernel
theorem dX13_sum_1 : decode cX13_sum 1 = .ok (.istore_n 3, 1) := by decide +kernel
theorem dX13_sum_2 : decode cX13_sum 2 = .ok (.iload_n 1, 1) := by decide +kernel
theorem dX13_sum_3 : decode cX13_sum 3 = .ok (.istore 4, 2) := by decide +kernel
theorem dX13_sum_5 : decode cX13_sum 5 = .ok (.iload 4, 2) := by decide +kernel
theorem dX13_sum_7 : decode cX13_sum 7 = .ok (.iload_n 2, 1) := by decide +kernel
theorem dX13_sum_8 : decode cX13_sum 8 = .ok (.if_icmp .ge 18, 3) := by decide +kernel
theorem dX13_sum_11 : decode cX13_sum 11 = .ok (.iload_n 3, 1) := by decide +kernel
theorem dX13_sum_12 : decode cX13_sum 12 = .ok (.aload_n 0, 1) := by decide +kernel
theorem dX13_sum_13 : decode cX13_sum 13 = .ok (.iload 4, 2) := by decide +kernel
theorem dX13_sum_15 : decode cX13_sum 15 = .ok (.invokevirtual 65, 3) := by decide +kernel
theorem dX13_sum_18 : decode cX13_sum 18 = .ok (.iadd, 1) := by decide +kernel
theorem dX13_sum_19 : decode cX13_sum 19 = .ok (.istore_n 3, 1) := by decide +kernel
theorem dX13_sum_20 : decode cX13_sum 20 = .ok (.iinc 4 1, 3) := by decide +kernel
theorem dX13_sum_23 : decode cX13_sum 23 = .ok (.goto (-18), 3) := by decide +kernel
theorem dX13_sum_26 : decode cX13_sum 26 = .ok (.iload_n 3, 1) := by decide +kernel
theorem dX13_sum_27 : decode cX13_sum 27 = .ok (.ireturn, 1) := by decide +kernel
theorem dX13_loudness_0 : decode cX13_loudness 0 = .ok (.aload_n 0, 1) := by decide +kernel
theorem dX13_loudness_1 : decode cX13_loudness 1 = .ok (.iconst 0, 1) := by decide +kernel
theorem dX13_loudness_2 : decode cX13_loudness 2 = .ok (.putfield 47, 3) := by decide +kernel
theorem dX13_loudness_5 : decode cX13_loudness 5 = .ok (.aload_n 0, 1) := by decide +kernel
theorem dX13_loudness_6 : decode cX13_loudness 6 = .ok (.iconst 0, 1) := by decide +kernel
theorem dX13_loudness_7 : decode cX13_loudness 7 = .ok (.aload_n 0, 1) := by decide +kernel
theorem dX13_loudness_8 : decode cX13_loudness 8 = .ok (.getfield 16, 3) := by decide +kernel
theorem dX13_loudness_11 : decode cX13_loudness 11 = .ok (.iconst 0, 1) := by decide +kernel
theorem dX13_loudness_12 : decode cX13_loudness 12 = .ok (.iaload, 1) := by decide +kernel
theorem dX13_loudness_13 : decode cX13_loudness 13 = .ok (.invokevirtual 144, 3) := by decide +kernel
theorem dX13_loudness_16 : decode cX13_loudness 16 = .ok (.i2l, 1) := by decide +kernel
theorem dX13_loudness_17 : decode cX13_loudness 17 = .ok (.lreturn, 1) := by decide +kernel
theorem dX13_loudnessByLevels_0 : decode cX13_loudnessByLevels 0 = .ok (.aload_n 0, 1) := by decide +kernel
theorem dX13_loudnessByLevels_1 : decode cX13_loudnessByLevels 1 = .ok (.invokevirtual 147, 3) := by decide +kernel
theorem dX13_loudnessByLevels_4 : decode cX13_loudnessByLevels 4 = .ok (.lreturn, 1) := by decide +kernel
theorem dX13_loudnessIn_0 : decode cX13_loudnessIn 0 = .ok (.aload_n 0, 1) := by decide +kernel
theorem dX13_loudnessIn_1 : decode cX13_loudnessIn 1 = .ok (.aload_n 0, 1) := by decide +kernel
theorem dX13_loudnessIn_2 : decode cX13_loudnessIn 2 = .ok (.iload_n 1, 1) := by decide +kernel
theorem dX13_loudnessIn_3 : decode cX13_loudnessIn 3 = .ok (.iload_n 2, 1) := by decide +kernel
theorem dX13_loudnessIn_4 : decode cX13_loudnessIn 4 = .ok (.invokevirtual 86, 3) := by decide +kernel
theorem dX13_loudnessIn_7 : decode cX13_loudnessIn 7 = .ok (.ifCond .eq 7, 3) := by decide +kernel
theorem dX13_loudnessIn_10 : decode cX13_loudnessIn 10 = .ok (.iconst 0, 1) := by decide +kernel
theorem dX13_loudnessIn_11 : decode cX13_loudnessIn 11 = .ok (.goto 4, 3) := by decide +kernel
theorem dX13_loudnessIn_14 : decode cX13_loudnessIn 14 = .ok (.iconst 1, 1) := by decide +kernel
theorem dX13_loudnessIn_15 : decode cX13_loudnessIn 15 = .ok (.putfield 47, 3) := by decide +kernel
theorem dX13_loudnessIn_18 : decode cX13_loudnessIn 18 = .ok (.aload_n 0, 1) := by decide +kernel
theorem dX13_loudnessIn_19 : decode cX13_loudnessIn 19 = .ok (.getfield 47, 3) := by decide +kernel
theorem dX13_loudnessIn_22 : decode cX13_loudnessIn 22 = .ok (.ifCond .ne 12, 3) := by decide +kernel
theorem dX13_loudnessIn_25 : decode cX13_loudnessIn 25 = .ok (.aload_n 0, 1) := by decide +kernel
theorem dX13_loudnessIn_26 : decode cX13_loudnessIn 26 = .ok (.iload_n 1, 1) := by decide +kernel
theorem dX13_loudnessIn_27 : decode cX13_loudnessIn 27 = .ok (.iload_n 2, 1) := by decide +kernel
theorem dX13_loudnessIn_28 : decode cX13_loudnessIn 28 = .ok (.invokevirtual 144, 3) := by decide +kernel
theorem dX13_loudnessIn_31 : decode cX13_loudnessIn 31 = .ok (.goto 4, 3) := by decide +kernel
theorem dX13_loudnessIn_34 : decode cX13_loudnessIn 34 = .ok (.iconst 0, 1) := by decide +kernel
theorem dX13_loudnessIn_35 : decode cX13_loudnessIn 35 = .ok (.ireturn, 1) := by decide +kernel
theorem dX13_loudnessInByPrefixes_0 : decode cX13_loudnessInByPrefixes 0 = .ok (.aload_n 0, 1) := by decide +kernel
theorem dX13_loudnessInByPrefixes_1 : decode cX13_loudnessInByPrefixes 1 = .ok (.iload_n 1, 1) := by decide +kernel
theorem dX13_loudnessInByPrefixes_2 : decode cX13_loudnessInByPrefixes 2 = .ok (.iload_n 2, 1) := by decide +kernel
theorem dX13_loudnessInByPrefixes_3 : decode cX13_loudnessInByPrefixes 3 = .ok (.invokevirtual 151, 3) := by decide +kernel
theorem dX13_loudnessInByPrefixes_6 : decode cX13_loudnessInByPrefixes 6 = .ok (.ireturn, 1) := by decide +kernel
theorem dX13_isSilent_0 : decode cX13_isSilent 0 = .ok (.aload_n 0, 1) := by decide +kernel
theorem dX13_isSilent_1 : decode cX13_isSilent 1 = .ok (.aload_n 0, 1) := by decide +kernel
theorem dX13_isSilent_2 : decode cX13_isSilent 2 = .ok (.iload_n 1, 1) := by decide +kernel
theorem dX13_isSilent_3 : decode cX13_isSilent 3 = .ok (.iload_n 2, 1) := by decide +kernel
theorem dX13_isSilent_4 : decode cX13_isSilent 4 = .ok (.invokevirtual 86, 3) := by decide +kernel
theorem dX13_isSilent_7 : decode cX13_isSilent 7 = .ok (.ifCond .eq 7, 3) := by decide +kernel
theorem dX13_isSilent_10 : decode cX13_isSilent 10 = .ok (.iconst 0, 1) := by decide +kernel
theorem dX13_isSilent_11 : decode cX13_isSilent 11 = .ok (.goto 4, 3) := by decide +kernel
theorem dX13_isSilent_14 : decode cX13_isSilent 14 = .ok (.iconst 1, 1) := by decide +kernel
theorem dX13_isSilent_15 : decode cX13_isSilent 15 = .ok (.putfield 47, 3) := by decide +kernel
theorem dX13_isSilent_18 : decode cX13_isSilent 18 = .ok (.aload_n 0, 1) := by decide +kernel
theorem dX13_isSilent_19 : decode cX13_isSilent 19 = .ok (.getfield 47, 3) := by decide +kernel
theorem dX13_isSilent_22 : decode cX13_isSilent 22 = .ok (.ifCond .ne 16, 3) := by decide +kernel
theorem dX13_isSilent_25 : decode cX13_isSilent 25 = .ok (.aload_n 0, 1) := by decide +kernel
theorem dX13_isSilent_26 : decode cX13_isSilent 26 = .ok (.iload_n 1, 1) := by decide +kernel
theorem dX13_isSilent_27 : decode cX13_isSilent 27 = .ok (.iload_n 2, 1) := by decide +kernel
theorem dX13_isSilent_28 : decode cX13_isSilent 28 = .ok (.invokevirtual 144, 3) := by decide +kernel
theorem dX13_isSilent_31 : decode cX13_isSilent 31 = .ok (.ifCond .ne 7, 3) := by decide +kernel
theorem dX13_isSilent_34 : decode cX13_isSilent 34 = .ok (.iconst 1, 1) := by decide +kernel
theorem dX13_isSilent_35 : decode cX13_isSilent 35 = .ok (.goto 4, 3) := by decide +kernel
theorem dX13_isSilent_38 : decode cX13_isSilent 38 = .ok (.iconst 0, 1) := by decide +kernel
theorem dX13_isSilent_39 : decode cX13_isSilent 39 = .ok (.ireturn, 1) := by decide +kernel
theorem dX13_peakLevel_0 : decode cX13_peakLevel 0 = .ok (.aload_n 0, 1) := by decide +kernel
theorem dX13_peakLevel_1 : decode cX13_peakLevel 1 = .ok (.iconst 0, 1) := by decide +kernel
theorem dX13_peakLevel_2 : decode cX13_peakLevel 2 = .ok (.putfield 47, 3) := by decide +kernel
theorem dX13_peakLevel_5 : decode cX13_peakLevel 5 = .ok (.iconst 0, 1) := by decide +kernel
theorem dX13_peakLevel_6 : decode cX13_peakLevel 6 = .ok (.istore_n 1, 1) := by decide +kernel
theorem dX13_peakLevel_7 : decode cX13_peakLevel 7 = .ok (.iconst 0, 1) := by decide +kernel
theorem dX13_peakLevel_8 : decode cX13_peakLevel 8 = .ok (.istore_n 2, 1) := by decide +kernel
theorem dX13_peakLevel_9 : decode cX13_peakLevel 9 = .ok (.iload_n 2, 1) := by decide +kernel
theorem dX13_peakLevel_10 : decode cX13_peakLevel 10 = .ok (.aload_n 0, 1) := by decide +kernel
theorem dX13_peakLevel_11 : decode cX13_peakLevel 11 = .ok (.getfield 16, 3) := by decide +kernel
theorem dX13_peakLevel_14 : decode cX13_peakLevel 14 = .ok (.iconst 0, 1) := by decide +kernel
theorem dX13_peakLevel_15 : decode cX13_peakLevel 15 = .ok (.iaload, 1) := by decide +kernel
theorem dX13_peakLevel_16 : decode cX13_peakLevel 16 = .ok (.if_icmp .ge 28, 3) := by decide +kernel
theorem dX13_peakLevel_19 : decode cX13_peakLevel 19 = .ok (.aload_n 0, 1) := by decide +kernel
theorem dX13_peakLevel_20 : decode cX13_peakLevel 20 = .ok (.iload_n 2, 1) := by decide +kernel
theorem dX13_peakLevel_21 : decode cX13_peakLevel 21 = .ok (.invokevirtual 65, 3) := by decide +kernel
theorem dX13_peakLevel_24 : decode cX13_peakLevel 24 = .ok (.iload_n 1, 1) := by decide +kernel
theorem dX13_peakLevel_25 : decode cX13_peakLevel 25 = .ok (.if_icmp .le 11, 3) := by decide +kernel
theorem dX13_peakLevel_28 : decode cX13_peakLevel 28 = .ok (.aload_n 0, 1) := by decide +kernel
theorem dX13_peakLevel_29 : decode cX13_peakLevel 29 = .ok (.iload_n 2, 1) := by decide +kernel
theorem dX13_peakLevel_30 : decode cX13_peakLevel 30 = .ok (.invokevirtual 65, 3) := by decide +kernel
theorem dX13_peakLevel_33 : decode cX13_peakLevel 33 = .ok (.goto 4, 3) := by decide +kernel
theorem dX13_peakLevel_36 : decode cX13_peakLevel 36 = .ok (.iload_n 1, 1) := by decide +kernel
theorem dX13_peakLevel_37 : decode cX13_peakLevel 37 = .ok (.istore_n 1, 1) := by decide +kernel
theorem dX13_peakLevel_38 : decode cX13_peakLevel 38 = .ok (.iinc 2 1, 3) := by decide +kernel
theorem dX13_peakLevel_41 : decode cX13_peakLevel 41 = .ok (.goto (-32), 3) := by decide +kernel
theorem dX13_peakLevel_44 : decode cX13_peakLevel 44 = .ok (.iload_n 1, 1) := by decide +kernel
theorem dX13_peakLevel_45 : decode cX13_peakLevel 45 = .ok (.ireturn, 1) := by decide +kernel
theorem dX13_isRestStart_0 : decode cX13_isRestStart 0 = .ok (.aload_n 0, 1) := by decide +kernel
theorem dX13_isRestStart_1 : decode cX13_isRestStart 1 = .ok (.iload_n 1, 1) := by decide +kernel
theorem dX13_isRestStart_2 : decode cX13_isRestStart 2 = .ok (.invokevirtual 128, 3) := by decide +kernel
theorem dX13_isRestStart_5 : decode cX13_isRestStart 5 = .ok (.ifCond .eq 15, 3) := by decide +kernel
theorem dX13_isRestStart_8 : decode cX13_isRestStart 8 = .ok (.aload_n 0, 1) := by decide +kernel
theorem dX13_isRestStart_9 : decode cX13_isRestStart 9 = .ok (.iload_n 1, 1) := by decide +kernel
theorem dX13_isRestStart_10 : decode cX13_isRestStart 10 = .ok (.invokevirtual 65, 3) := by decide +kernel
theorem dX13_isRestStart_13 : decode cX13_isRestStart 13 = .ok (.ifCond .ne 7, 3) := by decide +kernel
theorem dX13_isRestStart_16 : decode cX13_isRestStart 16 = .ok (.iconst 1, 1) := by decide +kernel
theorem dX13_isRestStart_17 : decode cX13_isRestStart 17 = .ok (.goto 4, 3) := by decide +kernel
theorem dX13_isRestStart_20 : decode cX13_isRestStart 20 = .ok (.iconst 0, 1) := by decide +kernel
theorem dX13_isRestStart_21 : decode cX13_isRestStart 21 = .ok (.ireturn, 1) := by decide +kernel
theorem dX13_restCount_0 : decode cX13_restCount 0 = .ok (.aload_n 0, 1) := by decide +kernel
theorem dX13_restCount_1 : decode cX13_restCount 1 = .ok (.iconst 0, 1) := by decide +kernel
theorem dX13_restCount_2 : decode cX13_restCount 2 = .ok (.putfield 47, 3) := by decide +kernel
theorem dX13_restCount_5 : decode cX13_restCount 5 = .ok (.iconst 0, 1) := by decide +kernel
theorem dX13_restCount_6 : decode cX13_restCount 6 = .ok (.istore_n 1, 1) := by decide +kernel
theorem dX13_restCount_7 : decode cX13_restCount 7 = .ok (.iconst 0, 1) := by decide +kernel
theorem dX13_restCount_8 : decode cX13_restCount 8 = .ok (.istore_n 2, 1) := by decide +kernel
theorem dX13_restCount_9 : decode cX13_restCount 9 = .ok (.iload_n 2, 1) := by decide +kernel
theorem dX13_restCount_10 : decode cX13_restCount 10 = .ok (.aload_n 0, 1) := by decide +kernel
theorem dX13_restCount_11 : decode cX13_restCount 11 = .ok (.getfield 16, 3) := by decide +kernel
theorem dX13_restCount_14 : decode cX13_restCount 14 = .ok (.iconst 0, 1) := by decide +kernel
theorem dX13_restCount_15 : decode cX13_restCount 15 = .ok (.iaload, 1) := by decide +kernel
theorem dX13_restCount_16 : decode cX13_restCount 16 = .ok (.if_icmp .ge 25, 3) := by decide +kernel
theorem dX13_restCount_19 : decode cX13_restCount 19 = .ok (.iload_n 1, 1) := by decide +kernel
theorem dX13_restCount_20 : decode cX13_restCount 20 = .ok (.aload_n 0, 1) := by decide +kernel
theorem dX13_restCount_21 : decode cX13_restCount 21 = .ok (.iload_n 2, 1) := by decide +kernel
theorem dX13_restCount_22 : decode cX13_restCount 22 = .ok (.invokevirtual 154, 3) := by decide +kernel
theorem dX13_restCount_25 : decode cX13_restCount 25 = .ok (.ifCond .eq 7, 3) := by decide +kernel
theorem dX13_restCount_28 : decode cX13_restCount 28 = .ok (.iconst 1, 1) := by decide +kernel
theorem dX13_restCount_29 : decode cX13_restCount 29 = .ok (.goto 4, 3) := by decide +kernel
theorem dX13_restCount_32 : decode cX13_restCount 32 = .ok (.iconst 0, 1) := by decide +kernel
theorem dX13_restCount_33 : decode cX13_restCount 33 = .ok (.iadd, 1) := by decide +kernel
theorem dX13_restCount_34 : decode cX13_restCount 34 = .ok (.istore_n 1, 1) := by decide +kernel
theorem dX13_restCount_35 : decode cX13_restCount 35 = .ok (.iinc 2 1, 3) := by decide +kernel
theorem dX13_restCount_38 : decode cX13_restCount 38 = .ok (.goto (-29), 3) := by decide +kernel
theorem dX13_restCount_41 : decode cX13_restCount 41 = .ok (.iload_n 1, 1) := by decide +kernel
theorem dX13_restCount_42 : decode cX13_restCount 42 = .ok (.ireturn, 1) := by decide +kernel
theorem dX13_restStartByLength_0 : decode cX13_restStartByLength 0 = .ok (.aload_n 0, 1) := by decide +kernel
theorem dX13_restStartByLength_1 : decode cX13_restStartByLength 1 = .ok (.iconst 0, 1) := by decide +kernel
theorem dX13_restStartByLength_2 : decode cX13_restStartByLength 2 = .ok (.putfield 47, 3) := by decide +kernel
theorem dX13_restStartByLength_5 : decode cX13_restStartByLength 5 = .ok (.iconst 0, 1) := by decide +kernel
theorem dX13_restStartByLength_6 : decode cX13_restStartByLength 6 = .ok (.istore_n 2, 1) := by decide +kernel
theorem dX13_restStartByLength_7 : decode cX13_restStartByLength 7 = .ok (.iload_n 2, 1) := by decide +kernel
theorem dX13_restStartByLength_8 : decode cX13_restStartByLength 8 = .ok (.aload_n 0, 1) := by decide +kernel
theorem dX13_restStartByLength_9 : decode cX13_restStartByLength 9 = .ok (.getfield 16, 3) := by decide +kernel
theorem dX13_restStartByLength_12 : decode cX13_restStartByLength 12 = .ok (.iconst 0, 1) := by decide +kernel
theorem dX13_restStartByLength_13 : decode cX13_restStartByLength 13 = .ok (.iaload, 1) := by decide +kernel
theorem dX13_restStartByLength_14 : decode cX13_restStartByLength 14 = .ok (.if_icmp .ge 104, 3) := by decide +kernel
theorem dX13_restStartByLength_17 : decode cX13_restStartByLength 17 = .ok (.aload_n 0, 1) := by decide +kernel
theorem dX13_restStartByLength_18 : decode cX13_restStartByLength 18 = .ok (.iload_n 2, 1) := by decide +kernel
theorem dX13_restStartByLength_19 : decode cX13_restStartByLength 19 = .ok (.invokevirtual 154, 3) := by decide +kernel
theorem dX13_restStartByLength_22 : decode cX13_restStartByLength 22 = .ok (.ifCond .ne 6, 3) := by decide +kernel
theorem dX13_restStartByLength_25 : decode cX13_restStartByLength 25 = .ok (.goto 87, 3) := by decide +kernel
theorem dX13_restStartByLength_28 : decode cX13_restStartByLength 28 = .ok (.iconst 0, 1) := by decide +kernel
theorem dX13_restStartByLength_29 : decode cX13_restStartByLength 29 = .ok (.istore_n 3, 1) := by decide +kernel
theorem dX13_restStartByLength_30 : decode cX13_restStartByLength 30 = .ok (.aload_n 0, 1) := by decide +kernel
theorem dX13_restStartByLength_31 : decode cX13_restStartByLength 31 = .ok (.iload_n 2, 1) := by decide +kernel
theorem dX13_restStartByLength_32 : decode cX13_restStartByLength 32 = .ok (.invokevirtual 138, 3) := by decide +kernel
theorem dX13_restStartByLength_35 : decode cX13_restStartByLength 35 = .ok (.istore 4, 2) := by decide +kernel
theorem dX13_restStartByLength_37 : decode cX13_restStartByLength 37 = .ok (.iconst 0, 1) := by decide +kernel
theorem dX13_restStartByLength_38 : decode cX13_restStartByLength 38 = .ok (.istore 5, 2) := by decide +kernel
theorem dX13_restStartByLength_40 : decode cX13_restStartByLength 40 = .ok (.iload 5, 2) := by decide +kernel
theorem dX13_restStartByLength_42 : decode cX13_restStartByLength 42 = .ok (.aload_n 0, 1) := by decide +kernel
theorem dX13_restStartByLength_43 : decode cX13_restStartByLength 43 = .ok (.getfield 16, 3) := by decide +kernel
theorem dX13_restStartByLength_46 : decode cX13_restStartByLength 46 = .ok (.iconst 0, 1) := by decide +kernel
theorem dX13_restStartByLength_47 : decode cX13_restStartByLength 47 = .ok (.iaload, 1) := by decide +kernel
theorem dX13_restStartByLength_48 : decode cX13_restStartByLength 48 = .ok (.if_icmp .ge 57, 3) := by decide +kernel
theorem dX13_restStartByLength_51 : decode cX13_restStartByLength 51 = .ok (.aload_n 0, 1) := by decide +kernel
theorem dX13_restStartByLength_52 : decode cX13_restStartByLength 52 = .ok (.iload 5, 2) := by decide +kernel
theorem dX13_restStartByLength_54 : decode cX13_restStartByLength 54 = .ok (.invokevirtual 154, 3) := by decide +kernel
theorem dX13_restStartByLength_57 : decode cX13_restStartByLength 57 = .ok (.ifCond .ne 6, 3) := by decide +kernel
theorem dX13_restStartByLength_60 : decode cX13_restStartByLength 60 = .ok (.goto 39, 3) := by decide +kernel
theorem dX13_restStartByLength_63 : decode cX13_restStartByLength 63 = .ok (.iload_n 3, 1) := by decide +kernel
theorem dX13_restStartByLength_64 : decode cX13_restStartByLength 64 = .ok (.aload_n 0, 1) := by decide +kernel
theorem dX13_restStartByLength_65 : decode cX13_restStartByLength 65 = .ok (.iload 5, 2) := by decide +kernel
theorem dX13_restStartByLength_67 : decode cX13_restStartByLength 67 = .ok (.invokevirtual 138, 3) := by decide +kernel
theorem dX13_restStartByLength_70 : decode cX13_restStartByLength 70 = .ok (.iload 4, 2) := by decide +kernel
theorem dX13_restStartByLength_72 : decode cX13_restStartByLength 72 = .ok (.if_icmp .gt 20, 3) := by decide +kernel
theorem dX13_restStartByLength_75 : decode cX13_restStartByLength 75 = .ok (.aload_n 0, 1) := by decide +kernel
theorem dX13_restStartByLength_76 : decode cX13_restStartByLength 76 = .ok (.iload 5, 2) := by decide +kernel
theorem dX13_restStartByLength_78 : decode cX13_restStartByLength 78 = .ok (.invokevirtual 138, 3) := by decide +kernel
theorem dX13_restStartByLength_81 : decode cX13_restStartByLength 81 = .ok (.iload 4, 2) := by decide +kernel
theorem dX13_restStartByLength_83 : decode cX13_restStartByLength 83 = .ok (.if_icmp .ne 13, 3) := by decide +kernel
theorem dX13_restStartByLength_86 : decode cX13_restStartByLength 86 = .ok (.iload 5, 2) := by decide +kernel
theorem dX13_restStartByLength_88 : decode cX13_restStartByLength 88 = .ok (.iload_n 2, 1) := by decide +kernel
theorem dX13_restStartByLength_89 : decode cX13_restStartByLength 89 = .ok (.if_icmp .ge 7, 3) := by decide +kernel
theorem dX13_restStartByLength_92 : decode cX13_restStartByLength 92 = .ok (.iconst 1, 1) := by decide +kernel
theorem dX13_restStartByLength_93 : decode cX13_restStartByLength 93 = .ok (.goto 4, 3) := by decide +kernel
theorem dX13_restStartByLength_96 : decode cX13_restStartByLength 96 = .ok (.iconst 0, 1) := by decide +kernel
theorem dX13_restStartByLength_97 : decode cX13_restStartByLength 97 = .ok (.iadd, 1) := by decide +kernel
theorem dX13_restStartByLength_98 : decode cX13_restStartByLength 98 = .ok (.istore_n 3, 1) := by decide +kernel
theorem dX13_restStartByLength_99 : decode cX13_restStartByLength 99 = .ok (.iinc 5 1, 3) := by decide +kernel
theorem dX13_restStartByLength_102 : decode cX13_restStartByLength 102 = .ok (.goto (-62), 3) := by decide +kernel
theorem dX13_restStartByLength_105 : decode cX13_restStartByLength 105 = .ok (.iload_n 3, 1) := by decide +kernel
theorem dX13_restStartByLength_106 : decode cX13_restStartByLength 106 = .ok (.iload_n 1, 1) := by decide +kernel
theorem dX13_restStartByLength_107 : decode cX13_restStartByLength 107 = .ok (.if_icmp .ne 5, 3) := by decide +kernel
theorem dX13_restStartByLength_110 : decode cX13_restStartByLength 110 = .ok (.iload_n 2, 1) := by decide +kernel
theorem dX13_restStartByLength_111 : decode cX13_restStartByLength 111 = .ok (.ireturn, 1) := by decide +kernel
theorem dX13_restStartByLength_112 : decode cX13_restStartByLength 112 = .ok (.iinc 2 1, 3) := by decide +kernel
theorem dX13_restStartByLength_115 : decode cX13_restStartByLength 115 = .ok (.goto (-108), 3) := by decide +kernel
theorem dX13_restStartByLength_118 : decode cX13_restStartByLength 118 = .ok (.aload_n 0, 1) := by decide +kernel
theorem dX13_restStartByLength_119 : decode cX13_restStartByLength 119 = .ok (.iconst 1, 1) := by decide +kernel
theorem dX13_restStartByLength_120 : decode cX13_restStartByLength 120 = .ok (.invokevirtual 61, 3) := by decide +kernel
theorem dX13_restStartByLength_123 : decode cX13_restStartByLength 123 = .ok (.ireturn, 1) := by decide +kernel
theorem dX13_nextChange_0 : decode cX13_nextChange 0 = .ok (.aload_n 0, 1) := by decide +kernel
theorem dX13_nextChange_1 : decode cX13_nextChange 1 = .ok (.iconst 0, 1) := by decide +kernel
theorem dX13_nextChange_2 : decode cX13_nextChange 2 = .ok (.putfield 47, 3) := by decide +kernel
theorem dX13_nextChange_5 : decode cX13_nextChange 5 = .ok (.aload_n 0, 1) := by decide +kernel
theorem dX13_nextChange_6 : decode cX13_nextChange 6 = .ok (.iload_n 1, 1) := by decide +kernel
theorem dX13_nextChange_7 : decode cX13_nextChange 7 = .ok (.invokevirtual 124, 3) := by decide +kernel
theorem dX13_nextChange_10 : decode cX13_nextChange 10 = .ok (.ifCond .ne 9, 3) := by decide +kernel
theorem dX13_nextChange_13 : decode cX13_nextChange 13 = .ok (.aload_n 0, 1) := by decide +kernel
theorem dX13_nextChange_14 : decode cX13_nextChange 14 = .ok (.iconst 1, 1) := by decide +kernel
theorem dX13_nextChange_15 : decode cX13_nextChange 15 = .ok (.invokevirtual 61, 3) := by decide +kernel
theorem dX13_nextChange_18 : decode cX13_nextChange 18 = .ok (.ireturn, 1) := by decide +kernel
theorem dX13_nextChange_19 : decode cX13_nextChange 19 = .ok (.iload_n 1, 1) := by decide +kernel
theorem dX13_nextChange_20 : decode cX13_nextChange 20 = .ok (.iconst 1, 1) := by decide +kernel
theorem dX13_nextChange_21 : decode cX13_nextChange 21 = .ok (.iadd, 1) := by decide +kernel
theorem dX13_nextChange_22 : decode cX13_nextChange 22 = .ok (.istore_n 2, 1) := by decide +kernel
theorem dX13_nextChange_23 : decode cX13_nextChange 23 = .ok (.iload_n 2, 1) := by decide +kernel
theorem dX13_nextChange_24 : decode cX13_nextChange 24 = .ok (.aload_n 0, 1) := by decide +kernel
theorem dX13_nextChange_25 : decode cX13_nextChange 25 = .ok (.getfield 16, 3) := by decide +kernel
theorem dX13_nextChange_28 : decode cX13_nextChange 28 = .ok (.iconst 0, 1) := by decide +kernel
theorem dX13_nextChange_29 : decode cX13_nextChange 29 = .ok (.iaload, 1) := by decide +kernel
theorem dX13_nextChange_30 : decode cX13_nextChange 30 = .ok (.if_icmp .ge 19, 3) := by decide +kernel
theorem dX13_nextChange_33 : decode cX13_nextChange 33 = .ok (.aload_n 0, 1) := by decide +kernel
theorem dX13_nextChange_34 : decode cX13_nextChange 34 = .ok (.iload_n 2, 1) := by decide +kernel
theorem dX13_nextChange_35 : decode cX13_nextChange 35 = .ok (.invokevirtual 128, 3) := by decide +kernel
theorem dX13_nextChange_38 : decode cX13_nextChange 38 = .ok (.ifCond .eq 5, 3) := by decide +kernel
theorem dX13_nextChange_41 : decode cX13_nextChange 41 = .ok (.iload_n 2, 1) := by decide +kernel
theorem dX13_nextChange_42 : decode cX13_nextChange 42 = .ok (.ireturn, 1) := by decide +kernel
theorem dX13_nextChange_43 : decode cX13_nextChange 43 = .ok (.iinc 2 1, 3) := by decide +kernel
theorem dX13_nextChange_46 : decode cX13_nextChange 46 = .ok (.goto (-23), 3) := by decide +kernel
theorem dX13_nextChange_49 : decode cX13_nextChange 49 = .ok (.aload_n 0, 1) := by decide +kernel
theorem dX13_nextChange_50 : decode cX13_nextChange 50 = .ok (.iconst 2, 1) := by decide +kernel
theorem dX13_nextChange_51 : decode cX13_nextChange 51 = .ok (.invokevirtual 61, 3) := by decide +kernel
theorem dX13_nextChange_54 : decode cX13_nextChange 54 = .ok (.ireturn, 1) := by decide +kernel
theorem dX13_findRun_0 : decode cX13_findRun 0 = .ok (.aload_n 0, 1) := by decide +kernel
theorem dX13_findRun_1 : decode cX13_findRun 1 = .ok (.iconst 0, 1) := by decide +kernel
theorem dX13_findRun_2 : decode cX13_findRun 2 = .ok (.putfield 47, 3) := by decide +kernel
theorem dX13_findRun_5 : decode cX13_findRun 5 = .ok (.iload_n 1, 1) := by decide +kernel
theorem dX13_findRun_6 : decode cX13_findRun 6 = .ok (.iconst 0, 1) := by decide +kernel
theorem dX13_findRun_7 : decode cX13_findRun 7 = .ok (.bipush 9, 2) := by decide +kernel
theorem dX13_findRun_9 : decode cX13_findRun 9 = .ok (.invokestatic 57, 3) := by decide +kernel
theorem dX13_findRun_12 : decode cX13_findRun 12 = .ok (.ifCond .eq 8, 3) := by decide +kernel
theorem dX13_findRun_15 : decode cX13_findRun 15 = .ok (.iload_n 2, 1) := by decide +kernel
theorem dX13_findRun_16 : decode cX13_findRun 16 = .ok (.iconst 1, 1) := by decide +kernel
theorem dX13_findRun_17 : decode cX13_findRun 17 = .ok (.if_icmp .ge 9, 3) := by decide +kernel
theorem dX13_findRun_20 : decode cX13_findRun 20 = .ok (.aload_n 0, 1) := by decide +kernel
theorem dX13_findRun_21 : decode cX13_findRun 21 = .ok (.iconst 1, 1) := by decide +kernel
theorem dX13_findRun_22 : decode cX13_findRun 22 = .ok (.invokevirtual 61, 3) := by decide +kernel
theorem dX13_findRun_25 : decode cX13_findRun 25 = .ok (.ireturn, 1) := by decide +kernel
theorem dX13_findRun_26 : decode cX13_findRun 26 = .ok (.iconst 0, 1) := by decide +kernel
theorem dX13_findRun_27 : decode cX13_findRun 27 = .ok (.istore_n 3, 1) := by decide +kernel
theorem dX13_findRun_28 : decode cX13_findRun 28 = .ok (.iconst 0, 1) := by decide +kernel
theorem dX13_findRun_29 : decode cX13_findRun 29 = .ok (.istore 4, 2) := by decide +kernel
theorem dX13_findRun_31 : decode cX13_findRun 31 = .ok (.iload 4, 2) := by decide +kernel
theorem dX13_findRun_33 : decode cX13_findRun 33 = .ok (.aload_n 0, 1) := by decide +kernel
theorem dX13_findRun_34 : decode cX13_findRun 34 = .ok (.getfield 16, 3) := by decide +kernel
theorem dX13_findRun_37 : decode cX13_findRun 37 = .ok (.iconst 0, 1) := by decide +kernel
theorem dX13_findRun_38 : decode cX13_findRun 38 = .ok (.iaload, 1) := by decide +kernel
theorem dX13_findRun_39 : decode cX13_findRun 39 = .ok (.if_icmp .ge 46, 3) := by decide +kernel
theorem dX13_findRun_42 : decode cX13_findRun 42 = .ok (.aload_n 0, 1) := by decide +kernel
theorem dX13_findRun_43 : decode cX13_findRun 43 = .ok (.iload 4, 2) := by decide +kernel
theorem dX13_findRun_45 : decode cX13_findRun 45 = .ok (.invokevirtual 128, 3) := by decide +kernel
theorem dX13_findRun_48 : decode cX13_findRun 48 = .ok (.ifCond .ne 6, 3) := by decide +kernel
theorem dX13_findRun_51 : decode cX13_findRun 51 = .ok (.goto 28, 3) := by decide +kernel
theorem dX13_findRun_54 : decode cX13_findRun 54 = .ok (.aload_n 0, 1) := by decide +kernel
theorem dX13_findRun_55 : decode cX13_findRun 55 = .ok (.iload 4, 2) := by decide +kernel
theorem dX13_findRun_57 : decode cX13_findRun 57 = .ok (.invokevirtual 65, 3) := by decide +kernel
theorem dX13_findRun_60 : decode cX13_findRun 60 = .ok (.iload_n 1, 1) := by decide +kernel
theorem dX13_findRun_61 : decode cX13_findRun 61 = .ok (.if_icmp .ne 15, 3) := by decide +kernel
theorem dX13_findRun_64 : decode cX13_findRun 64 = .ok (.aload_n 0, 1) := by decide +kernel
theorem dX13_findRun_65 : decode cX13_findRun 65 = .ok (.iload 4, 2) := by decide +kernel
theorem dX13_findRun_67 : decode cX13_findRun 67 = .ok (.invokevirtual 138, 3) := by decide +kernel
theorem dX13_findRun_70 : decode cX13_findRun 70 = .ok (.iload_n 2, 1) := by decide +kernel
theorem dX13_findRun_71 : decode cX13_findRun 71 = .ok (.if_icmp .lt 5, 3) := by decide +kernel
theorem dX13_findRun_74 : decode cX13_findRun 74 = .ok (.iload_n 3, 1) := by decide +kernel
theorem dX13_findRun_75 : decode cX13_findRun 75 = .ok (.ireturn, 1) := by decide +kernel
theorem dX13_findRun_76 : decode cX13_findRun 76 = .ok (.iinc 3 1, 3) := by decide +kernel
theorem dX13_findRun_79 : decode cX13_findRun 79 = .ok (.iinc 4 1, 3) := by decide +kernel
theorem dX13_findRun_82 : decode cX13_findRun 82 = .ok (.goto (-51), 3) := by decide +kernel
theorem dX13_findRun_85 : decode cX13_findRun 85 = .ok (.aload_n 0, 1) := by decide +kernel
theorem dX13_findRun_86 : decode cX13_findRun 86 = .ok (.iconst 2, 1) := by decide +kernel
theorem dX13_findRun_87 : decode cX13_findRun 87 = .ok (.invokevirtual 61, 3) := by decide +kernel
theorem dX13_findRun_90 : decode cX13_findRun 90 = .ok (.ireturn, 1) := by decide +kernel
theorem dX13_quietestWindow_0 : decode cX13_quietestWindow 0 = .ok (.aload_n 0, 1) := by decide +kernel
theorem dX13_quietestWindow_1 : decode cX13_quietestWindow 1 = .ok (.iconst 0, 1) := by decide +kernel
theorem dX13_quietestWindow_2 : decode cX13_quietestWindow 2 = .ok (.putfield 47, 3) := by decide +kernel
theorem dX13_quietestWindow_5 : decode cX13_quietestWindow 5 = .ok (.iload_n 1, 1) := by decide +kernel
theorem dX13_quietestWindow_6 : decode cX13_quietestWindow 6 = .ok (.iconst 1, 1) := by decide +kernel
theorem dX13_quietestWindow_7 : decode cX13_quietestWindow 7 = .ok (.if_icmp .ge 9, 3) := by decide +kernel
theorem dX13_quietestWindow_10 : decode cX13_quietestWindow 10 = .ok (.aload_n 0, 1) := by decide +kernel
theorem dX13_quietestWindow_11 : decode cX13_quietestWindow 11 = .ok (.iconst 1, 1) := by decide +kernel
theorem dX13_quietestWindow_12 : decode cX13_quietestWindow 12 = .ok (.invokevirtual 61, 3) := by decide +kernel
theorem dX13_quietestWindow_15 : decode cX13_quietestWindow 15 = .ok (.ireturn, 1) := by decide +kernel
theorem dX13_quietestWindow_16 : decode cX13_quietestWindow 16 = .ok (.iload_n 1, 1) := by decide +kernel
theorem dX13_quietestWindow_17 : decode cX13_quietestWindow 17 = .ok (.aload_n 0, 1) := by decide +kernel
theorem dX13_quietestWindow_18 : decode cX13_quietestWindow 18 = .ok (.getfield 16, 3) := by decide +kernel
theorem dX13_quietestWindow_21 : decode cX13_quietestWindow 21 = .ok (.iconst 0, 1) := by decide +kernel
theorem dX13_quietestWindow_22 : decode cX13_quietestWindow 22 = .ok (.iaload, 1) := by decide +kernel
theorem dX13_quietestWindow_23 : decode cX13_quietestWindow 23 = .ok (.if_icmp .le 9, 3) := by decide +kernel
theorem dX13_quietestWindow_26 : decode cX13_quietestWindow 26 = .ok (.aload_n 0, 1) := by decide +kernel
theorem dX13_quietestWindow_27 : decode cX13_quietestWindow 27 = .ok (.iconst 2, 1) := by decide +kernel
theorem dX13_quietestWindow_28 : decode cX13_quietestWindow 28 = .ok (.invokevirtual 61, 3) := by decide +kernel
theorem dX13_quietestWindow_31 : decode cX13_quietestWindow 31 = .ok (.ireturn, 1) := by decide +kernel
theorem dX13_quietestWindow_32 : decode cX13_quietestWindow 32 = .ok (.iconst 0, 1) := by decide +kernel
theorem dX13_quietestWindow_33 : decode cX13_quietestWindow 33 = .ok (.istore_n 2, 1) := by decide +kernel
theorem dX13_quietestWindow_34 : decode cX13_quietestWindow 34 = .ok (.iconst 1, 1) := by decide +kernel
theorem dX13_quietestWindow_35 : decode cX13_quietestWindow 35 = .ok (.istore_n 3, 1) := by decide +kernel
theorem dX13_quietestWindow_36 : decode cX13_quietestWindow 36 = .ok (.iload_n 3, 1) := by decide +kernel
theorem dX13_quietestWindow_37 : decode cX13_quietestWindow 37 = .ok (.iload_n 1, 1) := by decide +kernel
theorem dX13_quietestWindow_38 : decode cX13_quietestWindow 38 = .ok (.iadd, 1) := by decide +kernel
theorem dX13_quietestWindow_39 : decode cX13_quietestWindow 39 = .ok (.aload_n 0, 1) := by decide +kernel
theorem dX13_quietestWindow_40 : decode cX13_quietestWindow 40 = .ok (.getfield 16, 3) := by decide +kernel
theorem dX13_quietestWindow_43 : decode cX13_quietestWindow 43 = .ok (.iconst 0, 1) := by decide +kernel
theorem dX13_quietestWindow_44 : decode cX13_quietestWindow 44 = .ok (.iaload, 1) := by decide +kernel
theorem dX13_quietestWindow_45 : decode cX13_quietestWindow 45 = .ok (.if_icmp .gt 30, 3) := by decide +kernel
theorem dX13_quietestWindow_48 : decode cX13_quietestWindow 48 = .ok (.aload_n 0, 1) := by decide +kernel
theorem dX13_quietestWindow_49 : decode cX13_quietestWindow 49 = .ok (.iload_n 3, 1) := by decide +kernel
theorem dX13_quietestWindow_50 : decode cX13_quietestWindow 50 = .ok (.iload_n 3, 1) := by decide +kernel
theorem dX13_quietestWindow_51 : decode cX13_quietestWindow 51 = .ok (.iload_n 1, 1) := by decide +kernel
theorem dX13_quietestWindow_52 : decode cX13_quietestWindow 52 = .ok (.iadd, 1) := by decide +kernel
theorem dX13_quietestWindow_53 : decode cX13_quietestWindow 53 = .ok (.invokevirtual 144, 3) := by decide +kernel
theorem dX13_quietestWindow_56 : decode cX13_quietestWindow 56 = .ok (.aload_n 0, 1) := by decide +kernel
theorem dX13_quietestWindow_57 : decode cX13_quietestWindow 57 = .ok (.iload_n 2, 1) := by decide +kernel
theorem dX13_quietestWindow_58 : decode cX13_quietestWindow 58 = .ok (.iload_n 2, 1) := by decide +kernel
theorem dX13_quietestWindow_59 : decode cX13_quietestWindow 59 = .ok (.iload_n 1, 1) := by decide +kernel
theorem dX13_quietestWindow_60 : decode cX13_quietestWindow 60 = .ok (.iadd, 1) := by decide +kernel
theorem dX13_quietestWindow_61 : decode cX13_quietestWindow 61 = .ok (.invokevirtual 144, 3) := by decide +kernel
theorem dX13_quietestWindow_64 : decode cX13_quietestWindow 64 = .ok (.if_icmp .ge 5, 3) := by decide +kernel
theorem dX13_quietestWindow_67 : decode cX13_quietestWindow 67 = .ok (.iload_n 3, 1) := by decide +kernel
theorem dX13_quietestWindow_68 : decode cX13_quietestWindow 68 = .ok (.istore_n 2, 1) := by decide +kernel
theorem dX13_quietestWindow_69 : decode cX13_quietestWindow 69 = .ok (.iinc 3 1, 3) := by decide +kernel
theorem dX13_quietestWindow_72 : decode cX13_quietestWindow 72 = .ok (.goto (-36), 3) := by decide +kernel
theorem dX13_quietestWindow_75 : decode cX13_quietestWindow 75 = .ok (.iload_n 2, 1) := by decide +kernel
theorem dX13_quietestWindow_76 : decode cX13_quietestWindow 76 = .ok (.ireturn, 1) := by decide +kernel
theorem dX13_quietestWindowByTrial_0 : decode cX13_quietestWindowByTrial 0 = .ok (.aload_n 0, 1) := by decide +kernel
theorem dX13_quietestWindowByTrial_1 : decode cX13_quietestWindowByTrial 1 = .ok (.iload_n 1, 1) := by decide +kernel
theorem dX13_quietestWindowByTrial_2 : decode cX13_quietestWindowByTrial 2 = .ok (.invokevirtual 157, 3) := by decide +kernel
theorem dX13_quietestWindowByTrial_5 : decode cX13_quietestWindowByTrial 5 = .ok (.ireturn, 1) := by decide +kernel
theorem dX13_isPeriod_0 : decode cX13_isPeriod 0 = .ok (.iconst 0, 1) := by decide +kernel
theorem dX13_isPeriod_1 : decode cX13_isPeriod 1 = .ok (.istore_n 2, 1) := by decide +kernel
theorem dX13_isPeriod_2 : decode cX13_isPeriod 2 = .ok (.iload_n 2, 1) := by decide +kernel
theorem dX13_isPeriod_3 : decode cX13_isPeriod 3 = .ok (.iload_n 1, 1) := by decide +kernel
theorem dX13_isPeriod_4 : decode cX13_isPeriod 4 = .ok (.iadd, 1) := by decide +kernel
theorem dX13_isPeriod_5 : decode cX13_isPeriod 5 = .ok (.aload_n 0, 1) := by decide +kernel
theorem dX13_isPeriod_6 : decode cX13_isPeriod 6 = .ok (.getfield 16, 3) := by decide +kernel
theorem dX13_isPeriod_9 : decode cX13_isPeriod 9 = .ok (.iconst 0, 1) := by decide +kernel
theorem dX13_isPeriod_10 : decode cX13_isPeriod 10 = .ok (.iaload, 1) := by decide +kernel
theorem dX13_isPeriod_11 : decode cX13_isPeriod 11 = .ok (.if_icmp .ge 26, 3) := by decide +kernel
theorem dX13_isPeriod_14 : decode cX13_isPeriod 14 = .ok (.aload_n 0, 1) := by decide +kernel
theorem dX13_isPeriod_15 : decode cX13_isPeriod 15 = .ok (.iload_n 2, 1) := by decide +kernel
theorem dX13_isPeriod_16 : decode cX13_isPeriod 16 = .ok (.invokevirtual 65, 3) := by decide +kernel
theorem dX13_isPeriod_19 : decode cX13_isPeriod 19 = .ok (.aload_n 0, 1) := by decide +kernel
theorem dX13_isPeriod_20 : decode cX13_isPeriod 20 = .ok (.iload_n 2, 1) := by decide +kernel
theorem dX13_isPeriod_21 : decode cX13_isPeriod 21 = .ok (.iload_n 1, 1) := by decide +kernel
theorem dX13_isPeriod_22 : decode cX13_isPeriod 22 = .ok (.iadd, 1) := by decide +kernel
theorem dX13_isPeriod_23 : decode cX13_isPeriod 23 = .ok (.invokevirtual 65, 3) := by decide +kernel
theorem dX13_isPeriod_26 : decode cX13_isPeriod 26 = .ok (.if_icmp .eq 5, 3) := by decide +kernel
theorem dX13_isPeriod_29 : decode cX13_isPeriod 29 = .ok (.iconst 0, 1) := by decide +kernel
theorem dX13_isPeriod_30 : decode cX13_isPeriod 30 = .ok (.ireturn, 1) := by decide +kernel
theorem dX13_isPeriod_31 : decode cX13_isPeriod 31 = .ok (.iinc 2 1, 3) := by decide +kernel
theorem dX13_isPeriod_34 : decode cX13_isPeriod 34 = .ok (.goto (-32), 3) := by decide +kernel
theorem dX13_isPeriod_37 : decode cX13_isPeriod 37 = .ok (.iconst 1, 1) := by decide +kernel
theorem dX13_isPeriod_38 : decode cX13_isPeriod 38 = .ok (.ireturn, 1) := by decide +kernel
theorem dX13_period_0 : decode cX13_period 0 = .ok (.aload_n 0, 1) := by decide +kernel
theorem dX13_period_1 : decode cX13_period 1 = .ok (.aload_n 0, 1) := by decide +kernel
theorem dX13_period_2 : decode cX13_period 2 = .ok (.getfield 16, 3) := by decide +kernel
theorem dX13_period_5 : decode cX13_period 5 = .ok (.iconst 0, 1) := by decide +kernel
theorem dX13_period_6 : decode cX13_period 6 = .ok (.iaload, 1) := by decide +kernel
theorem dX13_period_7 : decode cX13_period 7 = .ok (.ifCond .ne 7, 3) := by decide +kernel
theorem dX13_period_10 : decode cX13_period 10 = .ok (.iconst 1, 1) := by decide +kernel
theorem dX13_period_11 : decode cX13_period 11 = .ok (.goto 4, 3) := by decide +kernel
theorem dX13_period_14 : decode cX13_period 14 = .ok (.iconst 0, 1) := by decide +kernel
theorem dX13_period_15 : decode cX13_period 15 = .ok (.putfield 47, 3) := by decide +kernel
theorem dX13_period_18 : decode cX13_period 18 = .ok (.iconst 1, 1) := by decide +kernel
theorem dX13_period_19 : decode cX13_period 19 = .ok (.istore_n 1, 1) := by decide +kernel
theorem dX13_period_20 : decode cX13_period 20 = .ok (.aload_n 0, 1) := by decide +kernel
theorem dX13_period_21 : decode cX13_period 21 = .ok (.getfield 47, 3) := by decide +kernel
theorem dX13_period_24 : decode cX13_period 24 = .ok (.ifCond .ne 17, 3) := by decide +kernel
theorem dX13_period_27 : decode cX13_period 27 = .ok (.aload_n 0, 1) := by decide +kernel
theorem dX13_period_28 : decode cX13_period 28 = .ok (.iload_n 1, 1) := by decide +kernel
theorem dX13_period_29 : decode cX13_period 29 = .ok (.invokevirtual 160, 3) := by decide +kernel
theorem dX13_period_32 : decode cX13_period 32 = .ok (.ifCond .ne 9, 3) := by decide +kernel
theorem dX13_period_35 : decode cX13_period 35 = .ok (.iinc 1 1, 3) := by decide +kernel
theorem dX13_period_38 : decode cX13_period 38 = .ok (.goto (-18), 3) := by decide +kernel
theorem dX13_period_41 : decode cX13_period 41 = .ok (.iload_n 1, 1) := by decide +kernel
theorem dX13_period_42 : decode cX13_period 42 = .ok (.ireturn, 1) := by decide +kernel
theorem dX13_periodByTrial_0 : decode cX13_periodByTrial 0 = .ok (.aload_n 0, 1) := by decide +kernel
theorem dX13_periodByTrial_1 : decode cX13_periodByTrial 1 = .ok (.invokevirtual 163, 3) := by decide +kernel
theorem dX13_periodByTrial_4 : decode cX13_periodByTrial 4 = .ok (.ireturn, 1) := by decide +kernel
theorem dX13_markerCount_0 : decode cX13_markerCount 0 = .ok (.aload_n 0, 1) := by decide +kernel
theorem dX13_markerCount_1 : decode cX13_markerCount 1 = .ok (.iconst 0, 1) := by decide +kernel
theorem dX13_markerCount_2 : decode cX13_markerCount 2 = .ok (.putfield 47, 3) := by decide +kernel
theorem dX13_markerCount_5 : decode cX13_markerCount 5 = .ok (.aload_n 0, 1) := by decide +kernel
theorem dX13_markerCount_6 : decode cX13_markerCount 6 = .ok (.getfield 16, 3) := by decide +kernel
theorem dX13_markerCount_9 : decode cX13_markerCount 9 = .ok (.iconst 1, 1) := by decide +kernel
theorem dX13_markerCount_10 : decode cX13_markerCount 10 = .ok (.iaload, 1) := by decide +kernel
theorem dX13_markerCount_11 : decode cX13_markerCount 11 = .ok (.ireturn, 1) := by decide +kernel
theorem dX13_markerTime_0 : decode cX13_markerTime 0 = .ok (.aload_n 0, 1) := by decide +kernel
theorem dX13_markerTime_1 : decode cX13_markerTime 1 = .ok (.iload_n 1, 1) := by decide +kernel
theorem dX13_markerTime_2 : decode cX13_markerTime 2 = .ok (.iconst 0, 1) := by decide +kernel
theorem dX13_markerTime_3 : decode cX13_markerTime 3 = .ok (.aload_n 0, 1) := by decide +kernel
theorem dX13_markerTime_4 : decode cX13_markerTime 4 = .ok (.getfield 16, 3) := by decide +kernel
theorem dX13_markerTime_7 : decode cX13_markerTime 7 = .ok (.iconst 1, 1) := by decide +kernel
theorem dX13_markerTime_8 : decode cX13_markerTime 8 = .ok (.iaload, 1) := by decide +kernel
theorem dX13_markerTime_9 : decode cX13_markerTime 9 = .ok (.iconst 1, 1) := by decide +kernel
theorem dX13_markerTime_10 : decode cX13_markerTime 10 = .ok (.isub, 1) := by decide +kernel
theorem dX13_markerTime_11 : decode cX13_markerTime 11 = .ok (.invokestatic 57, 3) := by decide +kernel
theorem dX13_markerTime_14 : decode cX13_markerTime 14 = .ok (.ifCond .eq 7, 3) := by decide +kernel
theorem dX13_markerTime_17 : decode cX13_markerTime 17 = .ok (.iconst 0, 1) := by decide +kernel
theorem dX13_markerTime_18 : decode cX13_markerTime 18 = .ok (.goto 4, 3) := by decide +kernel
theorem dX13_markerTime_21 : decode cX13_markerTime 21 = .ok (.iconst 1, 1) := by decide +kernel
theorem dX13_markerTime_22 : decode cX13_markerTime 22 = .ok (.putfield 47, 3) := by decide +kernel
theorem dX13_markerTime_25 : decode cX13_markerTime 25 = .ok (.aload_n 0, 1) := by decide +kernel
theorem dX13_markerTime_26 : decode cX13_markerTime 26 = .ok (.getfield 47, 3) := by decide +kernel
theorem dX13_markerTime_29 : decode cX13_markerTime 29 = .ok (.ifCond .ne 16, 3) := by decide +kernel
theorem dX13_markerTime_32 : decode cX13_markerTime 32 = .ok (.aload_n 0, 1) := by decide +kernel
theorem dX13_markerTime_33 : decode cX13_markerTime 33 = .ok (.getfield 16, 3) := by decide +kernel
theorem dX13_markerTime_36 : decode cX13_markerTime 36 = .ok (.sipush 204, 3) := by decide +kernel
theorem dX13_markerTime_39 : decode cX13_markerTime 39 = .ok (.iload_n 1, 1) := by decide +kernel
theorem dX13_markerTime_40 : decode cX13_markerTime 40 = .ok (.iadd, 1) := by decide +kernel
theorem dX13_markerTime_41 : decode cX13_markerTime 41 = .ok (.iaload, 1) := by decide +kernel
theorem dX13_markerTime_42 : decode cX13_markerTime 42 = .ok (.goto 4, 3) := by decide +kernel
theorem dX13_markerTime_45 : decode cX13_markerTime 45 = .ok (.iconst 0, 1) := by decide +kernel
theorem dX13_markerTime_46 : decode cX13_markerTime 46 = .ok (.ireturn, 1) := by decide +kernel
theorem dX13_isBar_0 : decode cX13_isBar 0 = .ok (.iload_n 1, 1) := by decide +kernel
theorem dX13_isBar_1 : decode cX13_isBar 1 = .ok (.iconst 0, 1) := by decide +kernel
theorem dX13_isBar_2 : decode cX13_isBar 2 = .ok (.aload_n 0, 1) := by decide +kernel
theorem dX13_isBar_3 : decode cX13_isBar 3 = .ok (.getfield 16, 3) := by decide +kernel
theorem dX13_isBar_6 : decode cX13_isBar 6 = .ok (.iconst 1, 1) := by decide +kernel
theorem dX13_isBar_7 : decode cX13_isBar 7 = .ok (.iaload, 1) := by decide +kernel
theorem dX13_isBar_8 : decode cX13_isBar 8 = .ok (.invokestatic 57, 3) := by decide +kernel
theorem dX13_isBar_11 : decode cX13_isBar 11 = .ok (.ireturn, 1) := by decide +kernel
theorem dX13_barFrom_0 : decode cX13_barFrom 0 = .ok (.iload_n 1, 1) := by decide +kernel
theorem dX13_barFrom_1 : decode cX13_barFrom 1 = .ok (.ifCond .ne 7, 3) := by decide +kernel
theorem dX13_barFrom_4 : decode cX13_barFrom 4 = .ok (.iconst 0, 1) := by decide +kernel
theorem dX13_barFrom_5 : decode cX13_barFrom 5 = .ok (.goto 15, 3) := by decide +kernel
theorem dX13_barFrom_8 : decode cX13_barFrom 8 = .ok (.aload_n 0, 1) := by decide +kernel
theorem dX13_barFrom_9 : decode cX13_barFrom 9 = .ok (.getfield 16, 3) := by decide +kernel
theorem dX13_barFrom_12 : decode cX13_barFrom 12 = .ok (.sipush 204, 3) := by decide +kernel
theorem dX13_barFrom_15 : decode cX13_barFrom 15 = .ok (.iload_n 1, 1) := by decide +kernel
theorem dX13_barFrom_16 : decode cX13_barFrom 16 = .ok (.iadd, 1) := by decide +kernel
theorem dX13_barFrom_17 : decode cX13_barFrom 17 = .ok (.iconst 1, 1) := by decide +kernel
theorem dX13_barFrom_18 : decode cX13_barFrom 18 = .ok (.isub, 1) := by decide +kernel
theorem dX13_barFrom_19 : decode cX13_barFrom 19 = .ok (.iaload, 1) := by decide +kernel
theorem dX13_barFrom_20 : decode cX13_barFrom 20 = .ok (.ireturn, 1) := by decide +kernel
theorem dX13_barTo_0 : decode cX13_barTo 0 = .ok (.iload_n 1, 1) := by decide +kernel
theorem dX13_barTo_1 : decode cX13_barTo 1 = .ok (.aload_n 0, 1) := by decide +kernel
theorem dX13_barTo_2 : decode cX13_barTo 2 = .ok (.getfield 16, 3) := by decide +kernel
theorem dX13_barTo_5 : decode cX13_barTo 5 = .ok (.iconst 1, 1) := by decide +kernel
theorem dX13_barTo_6 : decode cX13_barTo 6 = .ok (.iaload, 1) := by decide +kernel
theorem dX13_barTo_7 : decode cX13_barTo 7 = .ok (.if_icmp .ne 12, 3) := by decide +kernel
theorem dX13_barTo_10 : decode cX13_barTo 10 = .ok (.aload_n 0, 1) := by decide +kernel
theorem dX13_barTo_11 : decode cX13_barTo 11 = .ok (.getfield 16, 3) := by decide +kernel
theorem dX13_barTo_14 : decode cX13_barTo 14 = .ok (.iconst 0, 1) := by decide +kernel
theorem dX13_barTo_15 : decode cX13_barTo 15 = .ok (.iaload, 1) := by decide +kernel
theorem dX13_barTo_16 : decode cX13_barTo 16 = .ok (.goto 13, 3) := by decide +kernel
theorem dX13_barTo_19 : decode cX13_barTo 19 = .ok (.aload_n 0, 1) := by decide +kernel
theorem dX13_barTo_20 : decode cX13_barTo 20 = .ok (.getfield 16, 3) := by decide +kernel
theorem dX13_barTo_23 : decode cX13_barTo 23 = .ok (.sipush 204, 3) := by decide +kernel
theorem dX13_barTo_26 : decode cX13_barTo 26 = .ok (.iload_n 1, 1) := by decide +kernel
theorem dX13_barTo_27 : decode cX13_barTo 27 = .ok (.iadd, 1) := by decide +kernel
theorem dX13_barTo_28 : decode cX13_barTo 28 = .ok (.iaload, 1) := by decide +kernel
theorem dX13_barTo_29 : decode cX13_barTo 29 = .ok (.ireturn, 1) := by decide +kernel
theorem dX13_barLength_0 : decode cX13_barLength 0 = .ok (.aload_n 0, 1) := by decide +kernel
theorem dX13_barLength_1 : decode cX13_barLength 1 = .ok (.aload_n 0, 1) := by decide +kernel
theorem dX13_barLength_2 : decode cX13_barLength 2 = .ok (.iload_n 1, 1) := by decide +kernel
theorem dX13_barLength_3 : decode cX13_barLength 3 = .ok (.invokevirtual 166, 3) := by decide +kernel
theorem dX13_barLength_6 : decode cX13_barLength 6 = .ok (.ifCond .eq 7, 3) := by decide +kernel
theorem dX13_barLength_9 : decode cX13_barLength 9 = .ok (.iconst 0, 1) := by decide +kernel
theorem dX13_barLength_10 : decode cX13_barLength 10 = .ok (.goto 4, 3) := by decide +kernel
theorem dX13_barLength_13 : decode cX13_barLength 13 = .ok (.iconst 1, 1) := by decide +kernel
theorem dX13_barLength_14 : decode cX13_barLength 14 = .ok (.putfield 47, 3) := by decide +kernel
theorem dX13_barLength_17 : decode cX13_barLength 17 = .ok (.aload_n 0, 1) := by decide +kernel
theorem dX13_barLength_18 : decode cX13_barLength 18 = .ok (.getfield 47, 3) := by decide +kernel
theorem dX13_barLength_21 : decode cX13_barLength 21 = .ok (.ifCond .ne 17, 3) := by decide +kernel
theorem dX13_barLength_24 : decode cX13_barLength 24 = .ok (.aload_n 0, 1) := by decide +kernel
theorem dX13_barLength_25 : decode cX13_barLength 25 = .ok (.iload_n 1, 1) := by decide +kernel
theorem dX13_barLength_26 : decode cX13_barLength 26 = .ok (.invokevirtual 169, 3) := by decide +kernel
theorem dX13_barLength_29 : decode cX13_barLength 29 = .ok (.aload_n 0, 1) := by decide +kernel
theorem dX13_barLength_30 : decode cX13_barLength 30 = .ok (.iload_n 1, 1) := by decide +kernel
theorem dX13_barLength_31 : decode cX13_barLength 31 = .ok (.invokevirtual 172, 3) := by decide +kernel
theorem dX13_barLength_34 : decode cX13_barLength 34 = .ok (.isub, 1) := by decide +kernel
theorem dX13_barLength_35 : decode cX13_barLength 35 = .ok (.goto 4, 3) := by decide +kernel
theorem dX13_barLength_38 : decode cX13_barLength 38 = .ok (.iconst 0, 1) := by decide +kernel
theorem dX13_barLength_39 : decode cX13_barLength 39 = .ok (.ireturn, 1) := by decide +kernel
theorem dX13_barLoudness_0 : decode cX13_barLoudness 0 = .ok (.aload_n 0, 1) := by decide +kernel
theorem dX13_barLoudness_1 : decode cX13_barLoudness 1 = .ok (.aload_n 0, 1) := by decide +kernel
theorem dX13_barLoudness_2 : decode cX13_barLoudness 2 = .ok (.iload_n 1, 1) := by decide +kernel
theorem dX13_barLoudness_3 : decode cX13_barLoudness 3 = .ok (.invokevirtual 166, 3) := by decide +kernel
theorem dX13_barLoudness_6 : decode cX13_barLoudness 6 = .ok (.ifCond .eq 7, 3) := by decide +kernel
theorem dX13_barLoudness_9 : decode cX13_barLoudness 9 = .ok (.iconst 0, 1) := by decide +kernel
theorem dX13_barLoudness_10 : decode cX13_barLoudness 10 = .ok (.goto 4, 3) := by decide +kernel
theorem dX13_barLoudness_13 : decode cX13_barLoudness 13 = .ok (.iconst 1, 1) := by decide +kernel
theorem dX13_barLoudness_14 : decode cX13_barLoudness 14 = .ok (.putfield 47, 3) := by decide +kernel
theorem dX13_barLoudness_17 : decode cX13_barLoudness 17 = .ok (.aload_n 0, 1) := by decide +kernel
theorem dX13_barLoudness_18 : decode cX13_barLoudness 18 = .ok (.getfield 47, 3) := by decide +kernel
theorem dX13_barLoudness_21 : decode cX13_barLoudness 21 = .ok (.ifCond .ne 20, 3) := by decide +kernel
theorem dX13_barLoudness_24 : decode cX13_barLoudness 24 = .ok (.aload_n 0, 1) := by decide +kernel
theorem dX13_barLoudness_25 : decode cX13_barLoudness 25 = .ok (.aload_n 0, 1) := by decide +kernel
theorem dX13_barLoudness_26 : decode cX13_barLoudness 26 = .ok (.iload_n 1, 1) := by decide +kernel
theorem dX13_barLoudness_27 : decode cX13_barLoudness 27 = .ok (.invokevirtual 172, 3) := by decide +kernel
theorem dX13_barLoudness_30 : decode cX13_barLoudness 30 = .ok (.aload_n 0, 1) := by decide +kernel
theorem dX13_barLoudness_31 : decode cX13_barLoudness 31 = .ok (.iload_n 1, 1) := by decide +kernel
theorem dX13_barLoudness_32 : decode cX13_barLoudness 32 = .ok (.invokevirtual 169, 3) := by decide +kernel
theorem dX13_barLoudness_35 : decode cX13_barLoudness 35 = .ok (.invokevirtual 144, 3) := by decide +kernel
theorem dX13_barLoudness_38 : decode cX13_barLoudness 38 = .ok (.goto 4, 3) := by decide +kernel
theorem dX13_barLoudness_41 : decode cX13_barLoudness 41 = .ok (.iconst 0, 1) := by decide +kernel
theorem dX13_barLoudness_42 : decode cX13_barLoudness 42 = .ok (.ireturn, 1) := by decide +kernel
theorem dX13_loudestBar_0 : decode cX13_loudestBar 0 = .ok (.aload_n 0, 1) := by decide +kernel
theorem dX13_loudestBar_1 : decode cX13_loudestBar 1 = .ok (.iconst 0, 1) := by decide +kernel
theorem dX13_loudestBar_2 : decode cX13_loudestBar 2 = .ok (.putfield 47, 3) := by decide +kernel
theorem dX13_loudestBar_5 : decode cX13_loudestBar 5 = .ok (.iconst 0, 1) := by decide +kernel
theorem dX13_loudestBar_6 : decode cX13_loudestBar 6 = .ok (.istore_n 1, 1) := by decide +kernel
theorem dX13_loudestBar_7 : decode cX13_loudestBar 7 = .ok (.iconst 1, 1) := by decide +kernel
theorem dX13_loudestBar_8 : decode cX13_loudestBar 8 = .ok (.istore_n 2, 1) := by decide +kernel
theorem dX13_loudestBar_9 : decode cX13_loudestBar 9 = .ok (.iload_n 2, 1) := by decide +kernel
theorem dX13_loudestBar_10 : decode cX13_loudestBar 10 = .ok (.aload_n 0, 1) := by decide +kernel
theorem dX13_loudestBar_11 : decode cX13_loudestBar 11 = .ok (.getfield 16, 3) := by decide +kernel
theorem dX13_loudestBar_14 : decode cX13_loudestBar 14 = .ok (.iconst 1, 1) := by decide +kernel
theorem dX13_loudestBar_15 : decode cX13_loudestBar 15 = .ok (.iaload, 1) := by decide +kernel
theorem dX13_loudestBar_16 : decode cX13_loudestBar 16 = .ok (.if_icmp .gt 81, 3) := by decide +kernel
theorem dX13_loudestBar_19 : decode cX13_loudestBar 19 = .ok (.aload_n 0, 1) := by decide +kernel
theorem dX13_loudestBar_20 : decode cX13_loudestBar 20 = .ok (.aload_n 0, 1) := by decide +kernel
theorem dX13_loudestBar_21 : decode cX13_loudestBar 21 = .ok (.iload_n 2, 1) := by decide +kernel
theorem dX13_loudestBar_22 : decode cX13_loudestBar 22 = .ok (.invokevirtual 172, 3) := by decide +kernel
theorem dX13_loudestBar_25 : decode cX13_loudestBar 25 = .ok (.aload_n 0, 1) := by decide +kernel
theorem dX13_loudestBar_26 : decode cX13_loudestBar 26 = .ok (.iload_n 2, 1) := by decide +kernel
theorem dX13_loudestBar_27 : decode cX13_loudestBar 27 = .ok (.invokevirtual 169, 3) := by decide +kernel
theorem dX13_loudestBar_30 : decode cX13_loudestBar 30 = .ok (.invokevirtual 144, 3) := by decide +kernel
theorem dX13_loudestBar_33 : decode cX13_loudestBar 33 = .ok (.aload_n 0, 1) := by decide +kernel
theorem dX13_loudestBar_34 : decode cX13_loudestBar 34 = .ok (.aload_n 0, 1) := by decide +kernel
theorem dX13_loudestBar_35 : decode cX13_loudestBar 35 = .ok (.iload_n 1, 1) := by decide +kernel
theorem dX13_loudestBar_36 : decode cX13_loudestBar 36 = .ok (.invokevirtual 172, 3) := by decide +kernel
theorem dX13_loudestBar_39 : decode cX13_loudestBar 39 = .ok (.aload_n 0, 1) := by decide +kernel
theorem dX13_loudestBar_40 : decode cX13_loudestBar 40 = .ok (.iload_n 1, 1) := by decide +kernel
theorem dX13_loudestBar_41 : decode cX13_loudestBar 41 = .ok (.invokevirtual 169, 3) := by decide +kernel
theorem dX13_loudestBar_44 : decode cX13_loudestBar 44 = .ok (.invokevirtual 144, 3) := by decide +kernel
theorem dX13_loudestBar_47 : decode cX13_loudestBar 47 = .ok (.isub, 1) := by decide +kernel
theorem dX13_loudestBar_48 : decode cX13_loudestBar 48 = .ok (.istore_n 3, 1) := by decide +kernel
theorem dX13_loudestBar_49 : decode cX13_loudestBar 49 = .ok (.iload_n 3, 1) := by decide +kernel
theorem dX13_loudestBar_50 : decode cX13_loudestBar 50 = .ok (.ifCond .eq 7, 3) := by decide +kernel
theorem dX13_loudestBar_53 : decode cX13_loudestBar 53 = .ok (.iload_n 3, 1) := by decide +kernel
theorem dX13_loudestBar_54 : decode cX13_loudestBar 54 = .ok (.goto 26, 3) := by decide +kernel
theorem dX13_loudestBar_57 : decode cX13_loudestBar 57 = .ok (.aload_n 0, 1) := by decide +kernel
theorem dX13_loudestBar_58 : decode cX13_loudestBar 58 = .ok (.iload_n 2, 1) := by decide +kernel
theorem dX13_loudestBar_59 : decode cX13_loudestBar 59 = .ok (.invokevirtual 169, 3) := by decide +kernel
theorem dX13_loudestBar_62 : decode cX13_loudestBar 62 = .ok (.aload_n 0, 1) := by decide +kernel
theorem dX13_loudestBar_63 : decode cX13_loudestBar 63 = .ok (.iload_n 2, 1) := by decide +kernel
theorem dX13_loudestBar_64 : decode cX13_loudestBar 64 = .ok (.invokevirtual 172, 3) := by decide +kernel
theorem dX13_loudestBar_67 : decode cX13_loudestBar 67 = .ok (.isub, 1) := by decide +kernel
theorem dX13_loudestBar_68 : decode cX13_loudestBar 68 = .ok (.aload_n 0, 1) := by decide +kernel
theorem dX13_loudestBar_69 : decode cX13_loudestBar 69 = .ok (.iload_n 1, 1) := by decide +kernel
theorem dX13_loudestBar_70 : decode cX13_loudestBar 70 = .ok (.invokevirtual 169, 3) := by decide +kernel
theorem dX13_loudestBar_73 : decode cX13_loudestBar 73 = .ok (.isub, 1) := by decide +kernel
theorem dX13_loudestBar_74 : decode cX13_loudestBar 74 = .ok (.aload_n 0, 1) := by decide +kernel
theorem dX13_loudestBar_75 : decode cX13_loudestBar 75 = .ok (.iload_n 1, 1) := by decide +kernel
theorem dX13_loudestBar_76 : decode cX13_loudestBar 76 = .ok (.invokevirtual 172, 3) := by decide +kernel
theorem dX13_loudestBar_79 : decode cX13_loudestBar 79 = .ok (.iadd, 1) := by decide +kernel
theorem dX13_loudestBar_80 : decode cX13_loudestBar 80 = .ok (.istore_n 3, 1) := by decide +kernel
theorem dX13_loudestBar_81 : decode cX13_loudestBar 81 = .ok (.iload_n 3, 1) := by decide +kernel
theorem dX13_loudestBar_82 : decode cX13_loudestBar 82 = .ok (.ifCond .le 7, 3) := by decide +kernel
theorem dX13_loudestBar_85 : decode cX13_loudestBar 85 = .ok (.iload_n 2, 1) := by decide +kernel
theorem dX13_loudestBar_86 : decode cX13_loudestBar 86 = .ok (.goto 4, 3) := by decide +kernel
theorem dX13_loudestBar_89 : decode cX13_loudestBar 89 = .ok (.iload_n 1, 1) := by decide +kernel
theorem dX13_loudestBar_90 : decode cX13_loudestBar 90 = .ok (.istore_n 1, 1) := by decide +kernel
theorem dX13_loudestBar_91 : decode cX13_loudestBar 91 = .ok (.iinc 2 1, 3) := by decide +kernel
theorem dX13_loudestBar_94 : decode cX13_loudestBar 94 = .ok (.goto (-85), 3) := by decide +kernel
theorem dX13_loudestBar_97 : decode cX13_loudestBar 97 = .ok (.iload_n 1, 1) := by decide +kernel
theorem dX13_loudestBar_98 : decode cX13_loudestBar 98 = .ok (.ireturn, 1) := by decide +kernel
theorem dX13_areBarsEqual_0 : decode cX13_areBarsEqual 0 = .ok (.aload_n 0, 1) := by decide +kernel
theorem dX13_areBarsEqual_1 : decode cX13_areBarsEqual 1 = .ok (.aload_n 0, 1) := by decide +kernel
theorem dX13_areBarsEqual_2 : decode cX13_areBarsEqual 2 = .ok (.iload_n 1, 1) := by decide +kernel
theorem dX13_areBarsEqual_3 : decode cX13_areBarsEqual 3 = .ok (.invokevirtual 166, 3) := by decide +kernel
theorem dX13_areBarsEqual_6 : decode cX13_areBarsEqual 6 = .ok (.ifCond .eq 15, 3) := by decide +kernel
theorem dX13_areBarsEqual_9 : decode cX13_areBarsEqual 9 = .ok (.aload_n 0, 1) := by decide +kernel
theorem dX13_areBarsEqual_10 : decode cX13_areBarsEqual 10 = .ok (.iload_n 2, 1) := by decide +kernel
theorem dX13_areBarsEqual_11 : decode cX13_areBarsEqual 11 = .ok (.invokevirtual 166, 3) := by decide +kernel
theorem dX13_areBarsEqual_14 : decode cX13_areBarsEqual 14 = .ok (.ifCond .eq 7, 3) := by decide +kernel
theorem dX13_areBarsEqual_17 : decode cX13_areBarsEqual 17 = .ok (.iconst 0, 1) := by decide +kernel
theorem dX13_areBarsEqual_18 : decode cX13_areBarsEqual 18 = .ok (.goto 4, 3) := by decide +kernel
theorem dX13_areBarsEqual_21 : decode cX13_areBarsEqual 21 = .ok (.iconst 1, 1) := by decide +kernel
theorem dX13_areBarsEqual_22 : decode cX13_areBarsEqual 22 = .ok (.putfield 47, 3) := by decide +kernel
theorem dX13_areBarsEqual_25 : decode cX13_areBarsEqual 25 = .ok (.aload_n 0, 1) := by decide +kernel
theorem dX13_areBarsEqual_26 : decode cX13_areBarsEqual 26 = .ok (.getfield 47, 3) := by decide +kernel
theorem dX13_areBarsEqual_29 : decode cX13_areBarsEqual 29 = .ok (.ifCond .eq 5, 3) := by decide +kernel
theorem dX13_areBarsEqual_32 : decode cX13_areBarsEqual 32 = .ok (.iconst 0, 1) := by decide +kernel
theorem dX13_areBarsEqual_33 : decode cX13_areBarsEqual 33 = .ok (.ireturn, 1) := by decide +kernel
theorem dX13_areBarsEqual_34 : decode cX13_areBarsEqual 34 = .ok (.aload_n 0, 1) := by decide +kernel
theorem dX13_areBarsEqual_35 : decode cX13_areBarsEqual 35 = .ok (.iload_n 1, 1) := by decide +kernel
theorem dX13_areBarsEqual_36 : decode cX13_areBarsEqual 36 = .ok (.invokevirtual 169, 3) := by decide +kernel
theorem dX13_areBarsEqual_39 : decode cX13_areBarsEqual 39 = .ok (.aload_n 0, 1) := by decide +kernel
theorem dX13_areBarsEqual_40 : decode cX13_areBarsEqual 40 = .ok (.iload_n 1, 1) := by decide +kernel
theorem dX13_areBarsEqual_41 : decode cX13_areBarsEqual 41 = .ok (.invokevirtual 172, 3) := by decide +kernel
theorem dX13_areBarsEqual_44 : decode cX13_areBarsEqual 44 = .ok (.isub, 1) := by decide +kernel
theorem dX13_areBarsEqual_45 : decode cX13_areBarsEqual 45 = .ok (.istore_n 3, 1) := by decide +kernel
theorem dX13_areBarsEqual_46 : decode cX13_areBarsEqual 46 = .ok (.iload_n 3, 1) := by decide +kernel
theorem dX13_areBarsEqual_47 : decode cX13_areBarsEqual 47 = .ok (.aload_n 0, 1) := by decide +kernel
theorem dX13_areBarsEqual_48 : decode cX13_areBarsEqual 48 = .ok (.iload_n 2, 1) := by decide +kernel
theorem dX13_areBarsEqual_49 : decode cX13_areBarsEqual 49 = .ok (.invokevirtual 169, 3) := by decide +kernel
theorem dX13_areBarsEqual_52 : decode cX13_areBarsEqual 52 = .ok (.aload_n 0, 1) := by decide +kernel
theorem dX13_areBarsEqual_53 : decode cX13_areBarsEqual 53 = .ok (.iload_n 2, 1) := by decide +kernel
theorem dX13_areBarsEqual_54 : decode cX13_areBarsEqual 54 = .ok (.invokevirtual 172, 3) := by decide +kernel
theorem dX13_areBarsEqual_57 : decode cX13_areBarsEqual 57 = .ok (.isub, 1) := by decide +kernel
theorem dX13_areBarsEqual_58 : decode cX13_areBarsEqual 58 = .ok (.if_icmp .ne 7, 3) := by decide +kernel
theorem dX13_areBarsEqual_61 : decode cX13_areBarsEqual 61 = .ok (.iconst 1, 1) := by decide +kernel
theorem dX13_areBarsEqual_62 : decode cX13_areBarsEqual 62 = .ok (.goto 4, 3) := by decide +kernel
theorem dX13_areBarsEqual_65 : decode cX13_areBarsEqual 65 = .ok (.iconst 0, 1) := by decide +kernel
theorem dX13_areBarsEqual_66 : decode cX13_areBarsEqual 66 = .ok (.istore 4, 2) := by decide +kernel
theorem dX13_areBarsEqual_68 : decode cX13_areBarsEqual 68 = .ok (.iconst 0, 1) := by decide +kernel
theorem dX13_areBarsEqual_69 : decode cX13_areBarsEqual 69 = .ok (.istore 5, 2) := by decide +kernel
theorem dX13_areBarsEqual_71 : decode cX13_areBarsEqual 71 = .ok (.iload 4, 2) := by decide +kernel
theorem dX13_areBarsEqual_73 : decode cX13_areBarsEqual 73 = .ok (.ifCond .eq 49, 3) := by decide +kernel
theorem dX13_areBarsEqual_76 : decode cX13_areBarsEqual 76 = .ok (.iload 5, 2) := by decide +kernel
theorem dX13_areBarsEqual_78 : decode cX13_areBarsEqual 78 = .ok (.iload_n 3, 1) := by decide +kernel
theorem dX13_areBarsEqual_79 : decode cX13_areBarsEqual 79 = .ok (.if_icmp .ge 43, 3) := by decide +kernel
theorem dX13_areBarsEqual_82 : decode cX13_areBarsEqual 82 = .ok (.aload_n 0, 1) := by decide +kernel
theorem dX13_areBarsEqual_83 : decode cX13_areBarsEqual 83 = .ok (.aload_n 0, 1) := by decide +kernel
theorem dX13_areBarsEqual_84 : decode cX13_areBarsEqual 84 = .ok (.iload_n 1, 1) := by decide +kernel
theorem dX13_areBarsEqual_85 : decode cX13_areBarsEqual 85 = .ok (.invokevirtual 172, 3) := by decide +kernel
theorem dX13_areBarsEqual_88 : decode cX13_areBarsEqual 88 = .ok (.iload 5, 2) := by decide +kernel
theorem dX13_areBarsEqual_90 : decode cX13_areBarsEqual 90 = .ok (.iadd, 1) := by decide +kernel
theorem dX13_areBarsEqual_91 : decode cX13_areBarsEqual 91 = .ok (.invokevirtual 65, 3) := by decide +kernel
theorem dX13_areBarsEqual_94 : decode cX13_areBarsEqual 94 = .ok (.aload_n 0, 1) := by decide +kernel
theorem dX13_areBarsEqual_95 : decode cX13_areBarsEqual 95 = .ok (.aload_n 0, 1) := by decide +kernel
theorem dX13_areBarsEqual_96 : decode cX13_areBarsEqual 96 = .ok (.iload_n 2, 1) := by decide +kernel
theorem dX13_areBarsEqual_97 : decode cX13_areBarsEqual 97 = .ok (.invokevirtual 172, 3) := by decide +kernel
theorem dX13_areBarsEqual_100 : decode cX13_areBarsEqual 100 = .ok (.iload 5, 2) := by decide +kernel
theorem dX13_areBarsEqual_102 : decode cX13_areBarsEqual 102 = .ok (.iadd, 1) := by decide +kernel
theorem dX13_areBarsEqual_103 : decode cX13_areBarsEqual 103 = .ok (.invokevirtual 65, 3) := by decide +kernel
theorem dX13_areBarsEqual_106 : decode cX13_areBarsEqual 106 = .ok (.if_icmp .ne 7, 3) := by decide +kernel
theorem dX13_areBarsEqual_109 : decode cX13_areBarsEqual 109 = .ok (.iconst 1, 1) := by decide +kernel
theorem dX13_areBarsEqual_110 : decode cX13_areBarsEqual 110 = .ok (.goto 4, 3) := by decide +kernel
theorem dX13_areBarsEqual_113 : decode cX13_areBarsEqual 113 = .ok (.iconst 0, 1) := by decide +kernel
theorem dX13_areBarsEqual_114 : decode cX13_areBarsEqual 114 = .ok (.istore 4, 2) := by decide +kernel
theorem dX13_areBarsEqual_116 : decode cX13_areBarsEqual 116 = .ok (.iinc 5 1, 3) := by decide +kernel
theorem dX13_areBarsEqual_119 : decode cX13_areBarsEqual 119 = .ok (.goto (-48), 3) := by decide +kernel
theorem dX13_areBarsEqual_122 : decode cX13_areBarsEqual 122 = .ok (.iload 4, 2) := by decide +kernel
theorem dX13_areBarsEqual_124 : decode cX13_areBarsEqual 124 = .ok (.ireturn, 1) := by decide +kernel
theorem dX13_clipboardLength_0 : decode cX13_clipboardLength 0 = .ok (.aload_n 0, 1) := by decide +kernel
theorem dX13_clipboardLength_1 : decode cX13_clipboardLength 1 = .ok (.iconst 0, 1) := by decide +kernel
theorem dX13_clipboardLength_2 : decode cX13_clipboardLength 2 = .ok (.putfield 47, 3) := by decide +kernel
theorem dX13_clipboardLength_5 : decode cX13_clipboardLength 5 = .ok (.aload_n 0, 1) := by decide +kernel
theorem dX13_clipboardLength_6 : decode cX13_clipboardLength 6 = .ok (.getfield 16, 3) := by decide +kernel
theorem dX13_clipboardLength_9 : decode cX13_clipboardLength 9 = .ok (.iconst 2, 1) := by decide +kernel
theorem dX13_clipboardLength_10 : decode cX13_clipboardLength 10 = .ok (.iaload, 1) := by decide +kernel
theorem dX13_clipboardLength_11 : decode cX13_clipboardLength 11 = .ok (.ireturn, 1) := by decide +kernel
theorem dX13_trainCount_0 : decode cX13_trainCount 0 = .ok (.aload_n 0, 1) := by decide +kernel
theorem dX13_trainCount_1 : decode cX13_trainCount 1 = .ok (.iconst 0, 1) := by decide +kernel
theorem dX13_trainCount_2 : decode cX13_trainCount 2 = .ok (.putfield 47, 3) := by decide +kernel
theorem dX13_trainCount_5 : decode cX13_trainCount 5 = .ok (.aload_n 0, 1) := by decide +kernel
theorem dX13_trainCount_6 : decode cX13_trainCount 6 = .ok (.getfield 16, 3) := by decide +kernel
theorem dX13_trainCount_9 : decode cX13_trainCount 9 = .ok (.iconst 3, 1) := by decide +kernel
theorem dX13_trainCount_10 : decode cX13_trainCount 10 = .ok (.iaload, 1) := by decide +kernel
theorem dX13_trainCount_11 : decode cX13_trainCount 11 = .ok (.ireturn, 1) := by decide +kernel
theorem dX13_meanLevel_0 : decode cX13_meanLevel 0 = .ok (.aload_n 0, 1) := by decide +kernel
theorem dX13_meanLevel_1 : decode cX13_meanLevel 1 = .ok (.aload_n 0, 1) := by decide +kernel
theorem dX13_meanLevel_2 : decode cX13_meanLevel 2 = .ok (.getfield 16, 3) := by decide +kernel
theorem dX13_meanLevel_5 : decode cX13_meanLevel 5 = .ok (.iconst 0, 1) := by decide +kernel
theorem dX13_meanLevel_6 : decode cX13_meanLevel 6 = .ok (.iaload, 1) := by decide +kernel
theorem dX13_meanLevel_7 : decode cX13_meanLevel 7 = .ok (.ifCond .ne 7, 3) := by decide +kernel
theorem dX13_meanLevel_10 : decode cX13_meanLevel 10 = .ok (.iconst 1, 1) := by decide +kernel
theorem dX13_meanLevel_11 : decode cX13_meanLevel 11 = .ok (.goto 4, 3) := by decide +kernel
theorem dX13_meanLevel_14 : decode cX13_meanLevel 14 = .ok (.iconst 0, 1) := by decide +kernel
theorem dX13_meanLevel_15 : decode cX13_meanLevel 15 = .ok (.putfield 47, 3) := by decide +kernel
theorem dX13_meanLevel_18 : decode cX13_meanLevel 18 = .ok (.aload_n 0, 1) := by decide +kernel
theorem dX13_meanLevel_19 : decode cX13_meanLevel 19 = .ok (.getfield 47, 3) := by decide +kernel
theorem dX13_meanLevel_22 : decode cX13_meanLevel 22 = .ok (.ifCond .ne 26, 3) := by decide +kernel
theorem dX13_meanLevel_25 : decode cX13_meanLevel 25 = .ok (.aload_n 0, 1) := by decide +kernel
theorem dX13_meanLevel_26 : decode cX13_meanLevel 26 = .ok (.iconst 0, 1) := by decide +kernel
theorem dX13_meanLevel_27 : decode cX13_meanLevel 27 = .ok (.aload_n 0, 1) := by decide +kernel
theorem dX13_meanLevel_28 : decode cX13_meanLevel 28 = .ok (.getfield 16, 3) := by decide +kernel
theorem dX13_meanLevel_31 : decode cX13_meanLevel 31 = .ok (.iconst 0, 1) := by decide +kernel
theorem dX13_meanLevel_32 : decode cX13_meanLevel 32 = .ok (.iaload, 1) := by decide +kernel
theorem dX13_meanLevel_33 : decode cX13_meanLevel 33 = .ok (.invokevirtual 144, 3) := by decide +kernel
theorem dX13_meanLevel_36 : decode cX13_meanLevel 36 = .ok (.i2d, 1) := by decide +kernel
theorem dX13_meanLevel_37 : decode cX13_meanLevel 37 = .ok (.aload_n 0, 1) := by decide +kernel
theorem dX13_meanLevel_38 : decode cX13_meanLevel 38 = .ok (.getfield 16, 3) := by decide +kernel
theorem dX13_meanLevel_41 : decode cX13_meanLevel 41 = .ok (.iconst 0, 1) := by decide +kernel
theorem dX13_meanLevel_42 : decode cX13_meanLevel 42 = .ok (.iaload, 1) := by decide +kernel
theorem dX13_meanLevel_43 : decode cX13_meanLevel 43 = .ok (.i2d, 1) := by decide +kernel
theorem dX13_meanLevel_44 : decode cX13_meanLevel 44 = .ok (.ddiv, 1) := by decide +kernel
theorem dX13_meanLevel_45 : decode cX13_meanLevel 45 = .ok (.goto 4, 3) := by decide +kernel
theorem dX13_meanLevel_48 : decode cX13_meanLevel 48 = .ok (.dconst 0, 1) := by decide +kernel
theorem dX13_meanLevel_49 : decode cX13_meanLevel 49 = .ok (.dreturn, 1) := by decide +kernel
theorem dX13_restShare_0 : decode cX13_restShare 0 = .ok (.aload_n 0, 1) := by decide +kernel
theorem dX13_restShare_1 : decode cX13_restShare 1 = .ok (.aload_n 0, 1) := by decide +kernel
theorem dX13_restShare_2 : decode cX13_restShare 2 = .ok (.getfield 16, 3) := by decide +kernel
theorem dX13_restShare_5 : decode cX13_restShare 5 = .ok (.iconst 0, 1) := by decide +kernel
theorem dX13_restShare_6 : decode cX13_restShare 6 = .ok (.iaload, 1) := by decide +kernel
theorem dX13_restShare_7 : decode cX13_restShare 7 = .ok (.ifCond .ne 7, 3) := by decide +kernel
theorem dX13_restShare_10 : decode cX13_restShare 10 = .ok (.iconst 1, 1) := by decide +kernel
theorem dX13_restShare_11 : decode cX13_restShare 11 = .ok (.goto 4, 3) := by decide +kernel
theorem dX13_restShare_14 : decode cX13_restShare 14 = .ok (.iconst 0, 1) := by decide +kernel
theorem dX13_restShare_15 : decode cX13_restShare 15 = .ok (.putfield 47, 3) := by decide +kernel
theorem dX13_restShare_18 : decode cX13_restShare 18 = .ok (.aload_n 0, 1) := by decide +kernel
theorem dX13_restShare_19 : decode cX13_restShare 19 = .ok (.getfield 47, 3) := by decide +kernel
theorem dX13_restShare_22 : decode cX13_restShare 22 = .ok (.ifCond .ne 20, 3) := by decide +kernel
theorem dX13_restShare_25 : decode cX13_restShare 25 = .ok (.aload_n 0, 1) := by decide +kernel
theorem dX13_restShare_26 : decode cX13_restShare 26 = .ok (.iconst 0, 1) := by decide +kernel
theorem dX13_restShare_27 : decode cX13_restShare 27 = .ok (.invokevirtual 141, 3) := by decide +kernel
theorem dX13_restShare_30 : decode cX13_restShare 30 = .ok (.i2f, 1) := by decide +kernel
theorem dX13_restShare_31 : decode cX13_restShare 31 = .ok (.aload_n 0, 1) := by decide +kernel
theorem dX13_restShare_32 : decode cX13_restShare 32 = .ok (.getfield 16, 3) := by decide +kernel
theorem dX13_restShare_35 : decode cX13_restShare 35 = .ok (.iconst 0, 1) := by decide +kernel
theorem dX13_restShare_36 : decode cX13_restShare 36 = .ok (.iaload, 1) := by decide +kernel
theorem dX13_restShare_37 : decode cX13_restShare 37 = .ok (.i2f, 1) := by decide +kernel
theorem dX13_restShare_38 : decode cX13_restShare 38 = .ok (.fdiv, 1) := by decide +kernel
theorem dX13_restShare_39 : decode cX13_restShare 39 = .ok (.goto 4, 3) := by decide +kernel
theorem dX13_restShare_42 : decode cX13_restShare 42 = .ok (.fconst 0, 1) := by decide +kernel
theorem dX13_restShare_43 : decode cX13_restShare 43 = .ok (.freturn, 1) := by decide +kernel
theorem dX13_isConsistent_0 : decode cX13_isConsistent 0 = .ok (.aload_n 0, 1) := by decide +kernel
theorem dX13_isConsistent_1 : decode cX13_isConsistent 1 = .ok (.iconst 0, 1) := by decide +kernel
theorem dX13_isConsistent_2 : decode cX13_isConsistent 2 = .ok (.putfield 47, 3) := by decide +kernel
theorem dX13_isConsistent_5 : decode cX13_isConsistent 5 = .ok (.aload_n 0, 1) := by decide +kernel
theorem dX13_isConsistent_6 : decode cX13_isConsistent 6 = .ok (.getfield 16, 3) := by decide +kernel
theorem dX13_isConsistent_9 : decode cX13_isConsistent 9 = .ok (.iconst 0, 1) := by decide +kernel
theorem dX13_isConsistent_10 : decode cX13_isConsistent 10 = .ok (.iaload, 1) := by decide +kernel
theorem dX13_isConsistent_11 : decode cX13_isConsistent 11 = .ok (.sipush 200, 3) := by decide +kernel
theorem dX13_isConsistent_14 : decode cX13_isConsistent 14 = .ok (.if_icmp .gt 7, 3) := by decide +kernel
theorem dX13_isConsistent_17 : decode cX13_isConsistent 17 = .ok (.iconst 1, 1) := by decide +kernel
theorem dX13_isConsistent_18 : decode cX13_isConsistent 18 = .ok (.goto 4, 3) := by decide +kernel
theorem dX13_isConsistent_21 : decode cX13_isConsistent 21 = .ok (.iconst 0, 1) := by decide +kernel
theorem dX13_isConsistent_22 : decode cX13_isConsistent 22 = .ok (.ireturn, 1) := by decide +kernel
theorem dX13_writes_0 : decode cX13_writes 0 = .ok (.aload_n 0, 1) := by decide +kernel
theorem dX13_writes_1 : decode cX13_writes 1 = .ok (.getfield 35, 3) := by decide +kernel
theorem dX13_writes_4 : decode cX13_writes 4 = .ok (.aload_n 0, 1) := by decide +kernel
theorem dX13_writes_5 : decode cX13_writes 5 = .ok (.getfield 175, 3) := by decide +kernel
theorem dX13_writes_8 : decode cX13_writes 8 = .ok (.iload_n 1, 1) := by decide +kernel
theorem dX13_writes_9 : decode cX13_writes 9 = .ok (.iastore, 1) := by decide +kernel
theorem dX13_writes_10 : decode cX13_writes 10 = .ok (.aload_n 0, 1) := by decide +kernel
theorem dX13_writes_11 : decode cX13_writes 11 = .ok (.dup, 1) := by decide +kernel
theorem dX13_writes_12 : decode cX13_writes 12 = .ok (.getfield 175, 3) := by decide +kernel
theorem dX13_writes_15 : decode cX13_writes 15 = .ok (.iconst 1, 1) := by decide +kernel
theorem dX13_writes_16 : decode cX13_writes 16 = .ok (.iadd, 1) := by decide +kernel
theorem dX13_writes_17 : decode cX13_writes 17 = .ok (.putfield 175, 3) := by decide +kernel
theorem dX13_writes_20 : decode cX13_writes 20 = .ok (.return_, 1) := by decide +kernel
theorem dX13_writesNumber_0 : decode cX13_writesNumber 0 = .ok (.iconst 1, 1) := by decide +kernel
theorem dX13_writesNumber_1 : decode cX13_writesNumber 1 = .ok (.istore_n 2, 1) := by decide +kernel
theorem dX13_writesNumber_2 : decode cX13_writesNumber 2 = .ok (.iload_n 1, 1) := by decide +kernel
theorem dX13_writesNumber_3 : decode cX13_writesNumber 3 = .ok (.iload_n 2, 1) := by decide +kernel
theorem dX13_writesNumber_4 : decode cX13_writesNumber 4 = .ok (.idiv, 1) := by decide +kernel
theorem dX13_writesNumber_5 : decode cX13_writesNumber 5 = .ok (.bipush 10, 2) := by decide +kernel
theorem dX13_writesNumber_7 : decode cX13_writesNumber 7 = .ok (.if_icmp .lt 11, 3) := by decide +kernel
theorem dX13_writesNumber_10 : decode cX13_writesNumber 10 = .ok (.iload_n 2, 1) := by decide +kernel
theorem dX13_writesNumber_11 : decode cX13_writesNumber 11 = .ok (.bipush 10, 2) := by decide +kernel
theorem dX13_writesNumber_13 : decode cX13_writesNumber 13 = .ok (.imul, 1) := by decide +kernel
theorem dX13_writesNumber_14 : decode cX13_writesNumber 14 = .ok (.istore_n 2, 1) := by decide +kernel
theorem dX13_writesNumber_15 : decode cX13_writesNumber 15 = .ok (.goto (-13), 3) := by decide +kernel
theorem dX13_writesNumber_18 : decode cX13_writesNumber 18 = .ok (.iload_n 2, 1) := by decide +kernel
theorem dX13_writesNumber_19 : decode cX13_writesNumber 19 = .ok (.ifCond .le 24, 3) := by decide +kernel
theorem dX13_writesNumber_22 : decode cX13_writesNumber 22 = .ok (.aload_n 0, 1) := by decide +kernel
theorem dX13_writesNumber_23 : decode cX13_writesNumber 23 = .ok (.bipush 48, 2) := by decide +kernel
theorem dX13_writesNumber_25 : decode cX13_writesNumber 25 = .ok (.iload_n 1, 1) := by decide +kernel
theorem dX13_writesNumber_26 : decode cX13_writesNumber 26 = .ok (.iload_n 2, 1) := by decide +kernel
theorem dX13_writesNumber_27 : decode cX13_writesNumber 27 = .ok (.idiv, 1) := by decide +kernel
theorem dX13_writesNumber_28 : decode cX13_writesNumber 28 = .ok (.bipush 10, 2) := by decide +kernel
theorem dX13_writesNumber_30 : decode cX13_writesNumber 30 = .ok (.irem, 1) := by decide +kernel
theorem dX13_writesNumber_31 : decode cX13_writesNumber 31 = .ok (.iadd, 1) := by decide +kernel
theorem dX13_writesNumber_32 : decode cX13_writesNumber 32 = .ok (.invokevirtual 178, 3) := by decide +kernel
theorem dX13_writesNumber_35 : decode cX13_writesNumber 35 = .ok (.iload_n 2, 1) := by decide +kernel
theorem dX13_writesNumber_36 : decode cX13_writesNumber 36 = .ok (.bipush 10, 2) := by decide +kernel
theorem dX13_writesNumber_38 : decode cX13_writesNumber 38 = .ok (.idiv, 1) := by decide +kernel
theorem dX13_writesNumber_39 : decode cX13_writesNumber 39 = .ok (.istore_n 2, 1) := by decide +kernel
theorem dX13_writesNumber_40 : decode cX13_writesNumber 40 = .ok (.goto (-22), 3) := by decide +kernel
theorem dX13_writesNumber_43 : decode cX13_writesNumber 43 = .ok (.return_, 1) := by decide +kernel
theorem dX13_renderNotation_0 : decode cX13_renderNotation 0 = .ok (.aload_n 0, 1) := by decide +kernel
theorem dX13_renderNotation_1 : decode cX13_renderNotation 1 = .ok (.iconst 0, 1) := by decide +kernel
theorem dX13_renderNotation_2 : decode cX13_renderNotation 2 = .ok (.putfield 47, 3) := by decide +kernel
theorem dX13_renderNotation_5 : decode cX13_renderNotation 5 = .ok (.aload_n 0, 1) := by decide +kernel
theorem dX13_renderNotation_6 : decode cX13_renderNotation 6 = .ok (.iconst 0, 1) := by decide +kernel
theorem dX13_renderNotation_7 : decode cX13_renderNotation 7 = .ok (.putfield 175, 3) := by decide +kernel
theorem dX13_renderNotation_10 : decode cX13_renderNotation 10 = .ok (.iconst 0, 1) := by decide +kernel
theorem dX13_renderNotation_11 : decode cX13_renderNotation 11 = .ok (.istore_n 1, 1) := by decide +kernel
theorem dX13_renderNotation_12 : decode cX13_renderNotation 12 = .ok (.iload_n 1, 1) := by decide +kernel
theorem dX13_renderNotation_13 : decode cX13_renderNotation 13 = .ok (.aload_n 0, 1) := by decide +kernel
theorem dX13_renderNotation_14 : decode cX13_renderNotation 14 = .ok (.getfield 16, 3) := by decide +kernel
theorem dX13_renderNotation_17 : decode cX13_renderNotation 17 = .ok (.iconst 0, 1) := by decide +kernel
theorem dX13_renderNotation_18 : decode cX13_renderNotation 18 = .ok (.iaload, 1) := by decide +kernel
theorem dX13_renderNotation_19 : decode cX13_renderNotation 19 = .ok (.if_icmp .ge 81, 3) := by decide +kernel
theorem dX13_renderNotation_22 : decode cX13_renderNotation 22 = .ok (.aload_n 0, 1) := by decide +kernel
theorem dX13_renderNotation_23 : decode cX13_renderNotation 23 = .ok (.iload_n 1, 1) := by decide +kernel
theorem dX13_renderNotation_24 : decode cX13_renderNotation 24 = .ok (.invokevirtual 128, 3) := by decide +kernel
theorem dX13_renderNotation_27 : decode cX13_renderNotation 27 = .ok (.ifCond .ne 6, 3) := by decide +kernel
theorem dX13_renderNotation_30 : decode cX13_renderNotation 30 = .ok (.goto 64, 3) := by decide +kernel
theorem dX13_renderNotation_33 : decode cX13_renderNotation 33 = .ok (.iload_n 1, 1) := by decide +kernel
theorem dX13_renderNotation_34 : decode cX13_renderNotation 34 = .ok (.ifCond .le 9, 3) := by decide +kernel
theorem dX13_renderNotation_37 : decode cX13_renderNotation 37 = .ok (.aload_n 0, 1) := by decide +kernel
theorem dX13_renderNotation_38 : decode cX13_renderNotation 38 = .ok (.bipush 32, 2) := by decide +kernel
theorem dX13_renderNotation_40 : decode cX13_renderNotation 40 = .ok (.invokevirtual 178, 3) := by decide +kernel
theorem dX13_renderNotation_43 : decode cX13_renderNotation 43 = .ok (.aload_n 0, 1) := by decide +kernel
theorem dX13_renderNotation_44 : decode cX13_renderNotation 44 = .ok (.aload_n 0, 1) := by decide +kernel
theorem dX13_renderNotation_45 : decode cX13_renderNotation 45 = .ok (.iload_n 1, 1) := by decide +kernel
theorem dX13_renderNotation_46 : decode cX13_renderNotation 46 = .ok (.invokevirtual 65, 3) := by decide +kernel
theorem dX13_renderNotation_49 : decode cX13_renderNotation 49 = .ok (.ifCond .ne 8, 3) := by decide +kernel
theorem dX13_renderNotation_52 : decode cX13_renderNotation 52 = .ok (.bipush 114, 2) := by decide +kernel
theorem dX13_renderNotation_54 : decode cX13_renderNotation 54 = .ok (.goto 5, 3) := by decide +kernel
theorem dX13_renderNotation_57 : decode cX13_renderNotation 57 = .ok (.bipush 104, 2) := by decide +kernel
theorem dX13_renderNotation_59 : decode cX13_renderNotation 59 = .ok (.invokevirtual 178, 3) := by decide +kernel
theorem dX13_renderNotation_62 : decode cX13_renderNotation 62 = .ok (.aload_n 0, 1) := by decide +kernel
theorem dX13_renderNotation_63 : decode cX13_renderNotation 63 = .ok (.iload_n 1, 1) := by decide +kernel
theorem dX13_renderNotation_64 : decode cX13_renderNotation 64 = .ok (.invokevirtual 65, 3) := by decide +kernel
theorem dX13_renderNotation_67 : decode cX13_renderNotation 67 = .ok (.ifCond .le 12, 3) := by decide +kernel
theorem dX13_renderNotation_70 : decode cX13_renderNotation 70 = .ok (.aload_n 0, 1) := by decide +kernel
theorem dX13_renderNotation_71 : decode cX13_renderNotation 71 = .ok (.aload_n 0, 1) := by decide +kernel
theorem dX13_renderNotation_72 : decode cX13_renderNotation 72 = .ok (.iload_n 1, 1) := by decide +kernel
theorem dX13_renderNotation_73 : decode cX13_renderNotation 73 = .ok (.invokevirtual 65, 3) := by decide +kernel
theorem dX13_renderNotation_76 : decode cX13_renderNotation 76 = .ok (.invokevirtual 181, 3) := by decide +kernel
theorem dX13_renderNotation_79 : decode cX13_renderNotation 79 = .ok (.aload_n 0, 1) := by decide +kernel
theorem dX13_renderNotation_80 : decode cX13_renderNotation 80 = .ok (.bipush 58, 2) := by decide +kernel
theorem dX13_renderNotation_82 : decode cX13_renderNotation 82 = .ok (.invokevirtual 178, 3) := by decide +kernel
theorem dX13_renderNotation_85 : decode cX13_renderNotation 85 = .ok (.aload_n 0, 1) := by decide +kernel
theorem dX13_renderNotation_86 : decode cX13_renderNotation 86 = .ok (.aload_n 0, 1) := by decide +kernel
theorem dX13_renderNotation_87 : decode cX13_renderNotation 87 = .ok (.iload_n 1, 1) := by decide +kernel
theorem dX13_renderNotation_88 : decode cX13_renderNotation 88 = .ok (.invokevirtual 138, 3) := by decide +kernel
theorem dX13_renderNotation_91 : decode cX13_renderNotation 91 = .ok (.invokevirtual 181, 3) := by decide +kernel
theorem dX13_renderNotation_94 : decode cX13_renderNotation 94 = .ok (.iinc 1 1, 3) := by decide +kernel
theorem dX13_renderNotation_97 : decode cX13_renderNotation 97 = .ok (.goto (-85), 3) := by decide +kernel
theorem dX13_renderNotation_100 : decode cX13_renderNotation 100 = .ok (.aload_n 0, 1) := by decide +kernel
theorem dX13_renderNotation_101 : decode cX13_renderNotation 101 = .ok (.getfield 175, 3) := by decide +kernel
theorem dX13_renderNotation_104 : decode cX13_renderNotation 104 = .ok (.ireturn, 1) := by decide +kernel
theorem dX13_renderBars_0 : decode cX13_renderBars 0 = .ok (.aload_n 0, 1) := by decide +kernel
theorem dX13_renderBars_1 : decode cX13_renderBars 1 = .ok (.iconst 0, 1) := by decide +kernel
theorem dX13_renderBars_2 : decode cX13_renderBars 2 = .ok (.putfield 47, 3) := by decide +kernel
theorem dX13_renderBars_5 : decode cX13_renderBars 5 = .ok (.aload_n 0, 1) := by decide +kernel
theorem dX13_renderBars_6 : decode cX13_renderBars 6 = .ok (.iconst 0, 1) := by decide +kernel
theorem dX13_renderBars_7 : decode cX13_renderBars 7 = .ok (.putfield 175, 3) := by decide +kernel
theorem dX13_renderBars_10 : decode cX13_renderBars 10 = .ok (.iconst 0, 1) := by decide +kernel
theorem dX13_renderBars_11 : decode cX13_renderBars 11 = .ok (.istore_n 1, 1) := by decide +kernel
theorem dX13_renderBars_12 : decode cX13_renderBars 12 = .ok (.iload_n 1, 1) := by decide +kernel
theorem dX13_renderBars_13 : decode cX13_renderBars 13 = .ok (.aload_n 0, 1) := by decide +kernel
theorem dX13_renderBars_14 : decode cX13_renderBars 14 = .ok (.getfield 16, 3) := by decide +kernel
theorem dX13_renderBars_17 : decode cX13_renderBars 17 = .ok (.iconst 0, 1) := by decide +kernel
theorem dX13_renderBars_18 : decode cX13_renderBars 18 = .ok (.iaload, 1) := by decide +kernel
theorem dX13_renderBars_19 : decode cX13_renderBars 19 = .ok (.if_icmp .gt 42, 3) := by decide +kernel
theorem dX13_renderBars_22 : decode cX13_renderBars 22 = .ok (.aload_n 0, 1) := by decide +kernel
theorem dX13_renderBars_23 : decode cX13_renderBars 23 = .ok (.iload_n 1, 1) := by decide +kernel
theorem dX13_renderBars_24 : decode cX13_renderBars 24 = .ok (.invokevirtual 90, 3) := by decide +kernel
theorem dX13_renderBars_27 : decode cX13_renderBars 27 = .ok (.ifCond .lt 9, 3) := by decide +kernel
theorem dX13_renderBars_30 : decode cX13_renderBars 30 = .ok (.aload_n 0, 1) := by decide +kernel
theorem dX13_renderBars_31 : decode cX13_renderBars 31 = .ok (.bipush 124, 2) := by decide +kernel
theorem dX13_renderBars_33 : decode cX13_renderBars 33 = .ok (.invokevirtual 178, 3) := by decide +kernel
theorem dX13_renderBars_36 : decode cX13_renderBars 36 = .ok (.iload_n 1, 1) := by decide +kernel
theorem dX13_renderBars_37 : decode cX13_renderBars 37 = .ok (.aload_n 0, 1) := by decide +kernel
theorem dX13_renderBars_38 : decode cX13_renderBars 38 = .ok (.getfield 16, 3) := by decide +kernel
theorem dX13_renderBars_41 : decode cX13_renderBars 41 = .ok (.iconst 0, 1) := by decide +kernel
theorem dX13_renderBars_42 : decode cX13_renderBars 42 = .ok (.iaload, 1) := by decide +kernel
theorem dX13_renderBars_43 : decode cX13_renderBars 43 = .ok (.if_icmp .ge 12, 3) := by decide +kernel
theorem dX13_renderBars_46 : decode cX13_renderBars 46 = .ok (.aload_n 0, 1) := by decide +kernel
theorem dX13_renderBars_47 : decode cX13_renderBars 47 = .ok (.aload_n 0, 1) := by decide +kernel
theorem dX13_renderBars_48 : decode cX13_renderBars 48 = .ok (.iload_n 1, 1) := by decide +kernel
theorem dX13_renderBars_49 : decode cX13_renderBars 49 = .ok (.invokevirtual 65, 3) := by decide +kernel
theorem dX13_renderBars_52 : decode cX13_renderBars 52 = .ok (.invokevirtual 181, 3) := by decide +kernel
theorem dX13_renderBars_55 : decode cX13_renderBars 55 = .ok (.iinc 1 1, 3) := by decide +kernel
theorem dX13_renderBars_58 : decode cX13_renderBars 58 = .ok (.goto (-46), 3) := by decide +kernel
theorem dX13_renderBars_61 : decode cX13_renderBars 61 = .ok (.aload_n 0, 1) := by decide +kernel
theorem dX13_renderBars_62 : decode cX13_renderBars 62 = .ok (.getfield 175, 3) := by decide +kernel
theorem dX13_renderBars_65 : decode cX13_renderBars 65 = .ok (.ireturn, 1) := by decide +kernel
theorem dX13_outputAt_0 : decode cX13_outputAt 0 = .ok (.aload_n 0, 1) := by decide +kernel
theorem dX13_outputAt_1 : decode cX13_outputAt 1 = .ok (.iload_n 1, 1) := by decide +kernel
theorem dX13_outputAt_2 : decode cX13_outputAt 2 = .ok (.iconst 0, 1) := by decide +kernel
theorem dX13_outputAt_3 : decode cX13_outputAt 3 = .ok (.aload_n 0, 1) := by decide +kernel
theorem dX13_outputAt_4 : decode cX13_outputAt 4 = .ok (.getfield 175, 3) := by decide +kernel
theorem dX13_outputAt_7 : decode cX13_outputAt 7 = .ok (.iconst 1, 1) := by decide +kernel
theorem dX13_outputAt_8 : decode cX13_outputAt 8 = .ok (.isub, 1) := by decide +kernel
theorem dX13_outputAt_9 : decode cX13_outputAt 9 = .ok (.invokestatic 57, 3) := by decide +kernel
theorem dX13_outputAt_12 : decode cX13_outputAt 12 = .ok (.ifCond .eq 7, 3) := by decide +kernel
theorem dX13_outputAt_15 : decode cX13_outputAt 15 = .ok (.iconst 0, 1) := by decide +kernel
theorem dX13_outputAt_16 : decode cX13_outputAt 16 = .ok (.goto 4, 3) := by decide +kernel
theorem dX13_outputAt_19 : decode cX13_outputAt 19 = .ok (.iconst 1, 1) := by decide +kernel
theorem dX13_outputAt_20 : decode cX13_outputAt 20 = .ok (.putfield 47, 3) := by decide +kernel
theorem dX13_outputAt_23 : decode cX13_outputAt 23 = .ok (.aload_n 0, 1) := by decide +kernel
theorem dX13_outputAt_24 : decode cX13_outputAt 24 = .ok (.getfield 47, 3) := by decide +kernel
theorem dX13_outputAt_27 : decode cX13_outputAt 27 = .ok (.ifCond .ne 13, 3) := by decide +kernel
theorem dX13_outputAt_30 : decode cX13_outputAt 30 = .ok (.aload_n 0, 1) := by decide +kernel
theorem dX13_outputAt_31 : decode cX13_outputAt 31 = .ok (.getfield 35, 3) := by decide +kernel
theorem dX13_outputAt_34 : decode cX13_outputAt 34 = .ok (.iload_n 1, 1) := by decide +kernel
theorem dX13_outputAt_35 : decode cX13_outputAt 35 = .ok (.iaload, 1) := by decide +kernel
theorem dX13_outputAt_36 : decode cX13_outputAt 36 = .ok (.i2c, 1) := by decide +kernel
theorem dX13_outputAt_37 : decode cX13_outputAt 37 = .ok (.goto 5, 3) := by decide +kernel
theorem dX13_outputAt_40 : decode cX13_outputAt 40 = .ok (.bipush 97, 2) := by decide +kernel
theorem dX13_outputAt_42 : decode cX13_outputAt 42 = .ok (.ireturn, 1) := by decide +kernel
theorem dX13_type_0 : decode cX13_type 0 = .ok (.aload_n 0, 1) := by decide +kernel
theorem dX13_type_1 : decode cX13_type 1 = .ok (.iload_n 1, 1) := by decide +kernel
theorem dX13_type_2 : decode cX13_type 2 = .ok (.bipush 32, 2) := by decide +kernel
theorem dX13_type_4 : decode cX13_type 4 = .ok (.bipush 126, 2) := by decide +kernel
theorem dX13_type_6 : decode cX13_type 6 = .ok (.invokestatic 57, 3) := by decide +kernel
theorem dX13_type_9 : decode cX13_type 9 = .ok (.ifCond .ne 7, 3) := by decide +kernel
theorem dX13_type_12 : decode cX13_type 12 = .ok (.iconst 1, 1) := by decide +kernel
theorem dX13_type_13 : decode cX13_type 13 = .ok (.goto 17, 3) := by decide +kernel
theorem dX13_type_16 : decode cX13_type 16 = .ok (.aload_n 0, 1) := by decide +kernel
theorem dX13_type_17 : decode cX13_type 17 = .ok (.getfield 184, 3) := by decide +kernel
theorem dX13_type_20 : decode cX13_type 20 = .ok (.bipush 60, 2) := by decide +kernel
theorem dX13_type_22 : decode cX13_type 22 = .ok (.if_icmp .ne 7, 3) := by decide +kernel
theorem dX13_type_25 : decode cX13_type 25 = .ok (.iconst 2, 1) := by decide +kernel
theorem dX13_type_26 : decode cX13_type 26 = .ok (.goto 4, 3) := by decide +kernel
theorem dX13_type_29 : decode cX13_type 29 = .ok (.iconst 0, 1) := by decide +kernel
theorem dX13_type_30 : decode cX13_type 30 = .ok (.putfield 47, 3) := by decide +kernel
theorem dX13_type_33 : decode cX13_type 33 = .ok (.aload_n 0, 1) := by decide +kernel
theorem dX13_type_34 : decode cX13_type 34 = .ok (.getfield 47, 3) := by decide +kernel
theorem dX13_type_37 : decode cX13_type 37 = .ok (.ifCond .eq 5, 3) := by decide +kernel
theorem dX13_type_40 : decode cX13_type 40 = .ok (.iconst 0, 1) := by decide +kernel
theorem dX13_type_41 : decode cX13_type 41 = .ok (.ireturn, 1) := by decide +kernel
theorem dX13_type_42 : decode cX13_type 42 = .ok (.aload_n 0, 1) := by decide +kernel
theorem dX13_type_43 : decode cX13_type 43 = .ok (.getfield 32, 3) := by decide +kernel
theorem dX13_type_46 : decode cX13_type 46 = .ok (.aload_n 0, 1) := by decide +kernel
theorem dX13_type_47 : decode cX13_type 47 = .ok (.getfield 184, 3) := by decide +kernel
theorem dX13_type_50 : decode cX13_type 50 = .ok (.iload_n 1, 1) := by decide +kernel
theorem dX13_type_51 : decode cX13_type 51 = .ok (.iastore, 1) := by decide +kernel
theorem dX13_type_52 : decode cX13_type 52 = .ok (.aload_n 0, 1) := by decide +kernel
theorem dX13_type_53 : decode cX13_type 53 = .ok (.dup, 1) := by decide +kernel
theorem dX13_type_54 : decode cX13_type 54 = .ok (.getfield 184, 3) := by decide +kernel
theorem dX13_type_57 : decode cX13_type 57 = .ok (.iconst 1, 1) := by decide +kernel
theorem dX13_type_58 : decode cX13_type 58 = .ok (.iadd, 1) := by decide +kernel
theorem dX13_type_59 : decode cX13_type 59 = .ok (.putfield 184, 3) := by decide +kernel
theorem dX13_type_62 : decode cX13_type 62 = .ok (.aload_n 0, 1) := by decide +kernel
theorem dX13_type_63 : decode cX13_type 63 = .ok (.getfield 184, 3) := by decide +kernel
theorem dX13_type_66 : decode cX13_type 66 = .ok (.ireturn, 1) := by decide +kernel
theorem dX13_sign_0 : decode cX13_sign 0 = .ok (.aload_n 0, 1) := by decide +kernel
theorem dX13_sign_1 : decode cX13_sign 1 = .ok (.getfield 187, 3) := by decide +kernel
theorem dX13_sign_4 : decode cX13_sign 4 = .ok (.aload_n 0, 1) := by decide +kernel
theorem dX13_sign_5 : decode cX13_sign 5 = .ok (.getfield 190, 3) := by decide +kernel
theorem dX13_sign_8 : decode cX13_sign 8 = .ok (.if_icmp .ge 15, 3) := by decide +kernel
theorem dX13_sign_11 : decode cX13_sign 11 = .ok (.aload_n 0, 1) := by decide +kernel
theorem dX13_sign_12 : decode cX13_sign 12 = .ok (.getfield 32, 3) := by decide +kernel
theorem dX13_sign_15 : decode cX13_sign 15 = .ok (.aload_n 0, 1) := by decide +kernel
theorem dX13_sign_16 : decode cX13_sign 16 = .ok (.getfield 187, 3) := by decide +kernel
theorem dX13_sign_19 : decode cX13_sign 19 = .ok (.iaload, 1) := by decide +kernel
theorem dX13_sign_20 : decode cX13_sign 20 = .ok (.goto 4, 3) := by decide +kernel
theorem dX13_sign_23 : decode cX13_sign 23 = .ok (.iconst (-1), 1) := by decide +kernel
theorem dX13_sign_24 : decode cX13_sign 24 = .ok (.ireturn, 1) := by decide +kernel
theorem dX13_mark_0 : decode cX13_mark 0 = .ok (.aload_n 0, 1) := by decide +kernel
theorem dX13_mark_1 : decode cX13_mark 1 = .ok (.getfield 193, 3) := by decide +kernel
theorem dX13_mark_4 : decode cX13_mark 4 = .ok (.ifCond .eq 4, 3) := by decide +kernel
theorem dX13_mark_7 : decode cX13_mark 7 = .ok (.return_, 1) := by decide +kernel
theorem dX13_mark_8 : decode cX13_mark 8 = .ok (.aload_n 0, 1) := by decide +kernel
theorem dX13_mark_9 : decode cX13_mark 9 = .ok (.aload_n 0, 1) := by decide +kernel
theorem dX13_mark_10 : decode cX13_mark 10 = .ok (.invokevirtual 197, 3) := by decide +kernel
theorem dX13_mark_13 : decode cX13_mark 13 = .ok (.iload_n 1, 1) := by decide +kernel
theorem dX13_mark_14 : decode cX13_mark 14 = .ok (.if_icmp .eq 7, 3) := by decide +kernel
theorem dX13_mark_17 : decode cX13_mark 17 = .ok (.iconst 1, 1) := by decide +kernel
theorem dX13_mark_18 : decode cX13_mark 18 = .ok (.goto 4, 3) := by decide +kernel
theorem dX13_mark_21 : decode cX13_mark 21 = .ok (.iconst 0, 1) := by decide +kernel
theorem dX13_mark_22 : decode cX13_mark 22 = .ok (.putfield 193, 3) := by decide +kernel
theorem dX13_mark_25 : decode cX13_mark 25 = .ok (.aload_n 0, 1) := by decide +kernel
theorem dX13_mark_26 : decode cX13_mark 26 = .ok (.dup, 1) := by decide +kernel
theorem dX13_mark_27 : decode cX13_mark 27 = .ok (.getfield 187, 3) := by decide +kernel
theorem dX13_mark_30 : decode cX13_mark 30 = .ok (.aload_n 0, 1) := by decide +kernel
theorem dX13_mark_31 : decode cX13_mark 31 = .ok (.getfield 193, 3) := by decide +kernel
theorem dX13_mark_34 : decode cX13_mark 34 = .ok (.ifCond .eq 7, 3) := by decide +kernel
theorem dX13_mark_37 : decode cX13_mark 37 = .ok (.iconst 0, 1) := by decide +kernel
theorem dX13_mark_38 : decode cX13_mark 38 = .ok (.goto 4, 3) := by decide +kernel
theorem dX13_mark_41 : decode cX13_mark 41 = .ok (.iconst 1, 1) := by decide +kernel
theorem dX13_mark_42 : decode cX13_mark 42 = .ok (.iadd, 1) := by decide +kernel
theorem dX13_mark_43 : decode cX13_mark 43 = .ok (.putfield 187, 3) := by decide +kernel
theorem dX13_mark_46 : decode cX13_mark 46 = .ok (.return_, 1) := by decide +kernel
theorem dX13_digits_0 : decode cX13_digits 0 = .ok (.iconst 0, 1) := by decide +kernel
theorem dX13_digits_1 : decode cX13_digits 1 = .ok (.istore_n 1, 1) := by decide +kernel
theorem dX13_digits_2 : decode cX13_digits 2 = .ok (.iconst 0, 1) := by decide +kernel
theorem dX13_digits_3 : decode cX13_digits 3 = .ok (.istore_n 2, 1) := by decide +kernel
theorem dX13_digits_4 : decode cX13_digits 4 = .ok (.aload_n 0, 1) := by decide +kernel
theorem dX13_digits_5 : decode cX13_digits 5 = .ok (.getfield 193, 3) := by decide +kernel
theorem dX13_digits_8 : decode cX13_digits 8 = .ok (.ifCond .ne 51, 3) := by decide +kernel
theorem dX13_digits_11 : decode cX13_digits 11 = .ok (.iload_n 2, 1) := by decide +kernel
theorem dX13_digits_12 : decode cX13_digits 12 = .ok (.iconst 3, 1) := by decide +kernel
theorem dX13_digits_13 : decode cX13_digits 13 = .ok (.if_icmp .ge 46, 3) := by decide +kernel
theorem dX13_digits_16 : decode cX13_digits 16 = .ok (.aload_n 0, 1) := by decide +kernel
theorem dX13_digits_17 : decode cX13_digits 17 = .ok (.invokevirtual 197, 3) := by decide +kernel
theorem dX13_digits_20 : decode cX13_digits 20 = .ok (.bipush 48, 2) := by decide +kernel
theorem dX13_digits_22 : decode cX13_digits 22 = .ok (.bipush 57, 2) := by decide +kernel
theorem dX13_digits_24 : decode cX13_digits 24 = .ok (.invokestatic 57, 3) := by decide +kernel
theorem dX13_digits_27 : decode cX13_digits 27 = .ok (.ifCond .eq 32, 3) := by decide +kernel
theorem dX13_digits_30 : decode cX13_digits 30 = .ok (.bipush 10, 2) := by decide +kernel
theorem dX13_digits_32 : decode cX13_digits 32 = .ok (.iload_n 1, 1) := by decide +kernel
theorem dX13_digits_33 : decode cX13_digits 33 = .ok (.imul, 1) := by decide +kernel
theorem dX13_digits_34 : decode cX13_digits 34 = .ok (.aload_n 0, 1) := by decide +kernel
theorem dX13_digits_35 : decode cX13_digits 35 = .ok (.invokevirtual 197, 3) := by decide +kernel
theorem dX13_digits_38 : decode cX13_digits 38 = .ok (.iadd, 1) := by decide +kernel
theorem dX13_digits_39 : decode cX13_digits 39 = .ok (.bipush 48, 2) := by decide +kernel
theorem dX13_digits_41 : decode cX13_digits 41 = .ok (.isub, 1) := by decide +kernel
theorem dX13_digits_42 : decode cX13_digits 42 = .ok (.istore_n 1, 1) := by decide +kernel
theorem dX13_digits_43 : decode cX13_digits 43 = .ok (.aload_n 0, 1) := by decide +kernel
theorem dX13_digits_44 : decode cX13_digits 44 = .ok (.dup, 1) := by decide +kernel
theorem dX13_digits_45 : decode cX13_digits 45 = .ok (.getfield 187, 3) := by decide +kernel
theorem dX13_digits_48 : decode cX13_digits 48 = .ok (.iconst 1, 1) := by decide +kernel
theorem dX13_digits_49 : decode cX13_digits 49 = .ok (.iadd, 1) := by decide +kernel
theorem dX13_digits_50 : decode cX13_digits 50 = .ok (.putfield 187, 3) := by decide +kernel
theorem dX13_digits_53 : decode cX13_digits 53 = .ok (.iinc 2 1, 3) := by decide +kernel
theorem dX13_digits_56 : decode cX13_digits 56 = .ok (.goto (-52), 3) := by decide +kernel
theorem dX13_digits_59 : decode cX13_digits 59 = .ok (.aload_n 0, 1) := by decide +kernel
theorem dX13_digits_60 : decode cX13_digits 60 = .ok (.dup, 1) := by decide +kernel
theorem dX13_digits_61 : decode cX13_digits 61 = .ok (.getfield 193, 3) := by decide +kernel
theorem dX13_digits_64 : decode cX13_digits 64 = .ok (.iload_n 2, 1) := by decide +kernel
theorem dX13_digits_65 : decode cX13_digits 65 = .ok (.ifCond .ne 7, 3) := by decide +kernel
theorem dX13_digits_68 : decode cX13_digits 68 = .ok (.iconst 1, 1) := by decide +kernel
theorem dX13_digits_69 : decode cX13_digits 69 = .ok (.goto 4, 3) := by decide +kernel
theorem dX13_digits_72 : decode cX13_digits 72 = .ok (.iconst 0, 1) := by decide +kernel
theorem dX13_digits_73 : decode cX13_digits 73 = .ok (.ior, 1) := by decide +kernel
theorem dX13_digits_74 : decode cX13_digits 74 = .ok (.putfield 193, 3) := by decide +kernel
theorem dX13_digits_77 : decode cX13_digits 77 = .ok (.iload_n 1, 1) := by decide +kernel
theorem dX13_digits_78 : decode cX13_digits 78 = .ok (.ireturn, 1) := by decide +kernel
theorem dX13_run_0 : decode cX13_run 0 = .ok (.aload_n 0, 1) := by decide +kernel
theorem dX13_run_1 : decode cX13_run 1 = .ok (.invokevirtual 197, 3) := by decide +kernel
theorem dX13_run_4 : decode cX13_run 4 = .ok (.bipush 114, 2) := by decide +kernel
theorem dX13_run_6 : decode cX13_run 6 = .ok (.if_icmp .ne 7, 3) := by decide +kernel
theorem dX13_run_9 : decode cX13_run 9 = .ok (.iconst 1, 1) := by decide +kernel
theorem dX13_run_10 : decode cX13_run 10 = .ok (.goto 4, 3) := by decide +kernel
theorem dX13_run_13 : decode cX13_run 13 = .ok (.iconst 0, 1) := by decide +kernel
theorem dX13_run_14 : decode cX13_run 14 = .ok (.istore_n 1, 1) := by decide +kernel
theorem dX13_run_15 : decode cX13_run 15 = .ok (.iconst 0, 1) := by decide +kernel
theorem dX13_run_16 : decode cX13_run 16 = .ok (.istore_n 2, 1) := by decide +kernel
theorem dX13_run_17 : decode cX13_run 17 = .ok (.aload_n 0, 1) := by decide +kernel
theorem dX13_run_18 : decode cX13_run 18 = .ok (.iload_n 1, 1) := by decide +kernel
theorem dX13_run_19 : decode cX13_run 19 = .ok (.ifCond .eq 8, 3) := by decide +kernel
theorem dX13_run_22 : decode cX13_run 22 = .ok (.bipush 114, 2) := by decide +kernel
theorem dX13_run_24 : decode cX13_run 24 = .ok (.goto 5, 3) := by decide +kernel
theorem dX13_run_27 : decode cX13_run 27 = .ok (.bipush 104, 2) := by decide +kernel
theorem dX13_run_29 : decode cX13_run 29 = .ok (.invokevirtual 200, 3) := by decide +kernel
theorem dX13_run_32 : decode cX13_run 32 = .ok (.iload_n 1, 1) := by decide +kernel
theorem dX13_run_33 : decode cX13_run 33 = .ok (.ifCond .ne 62, 3) := by decide +kernel
theorem dX13_run_36 : decode cX13_run 36 = .ok (.aload_n 0, 1) := by decide +kernel
theorem dX13_run_37 : decode cX13_run 37 = .ok (.getfield 193, 3) := by decide +kernel
theorem dX13_run_40 : decode cX13_run 40 = .ok (.ifCond .ne 55, 3) := by decide +kernel
theorem dX13_run_43 : decode cX13_run 43 = .ok (.aload_n 0, 1) := by decide +kernel
theorem dX13_run_44 : decode cX13_run 44 = .ok (.aload_n 0, 1) := by decide +kernel
theorem dX13_run_45 : decode cX13_run 45 = .ok (.invokevirtual 197, 3) := by decide +kernel
theorem dX13_run_48 : decode cX13_run 48 = .ok (.bipush 49, 2) := by decide +kernel
theorem dX13_run_50 : decode cX13_run 50 = .ok (.bipush 57, 2) := by decide +kernel
theorem dX13_run_52 : decode cX13_run 52 = .ok (.invokestatic 57, 3) := by decide +kernel
theorem dX13_run_55 : decode cX13_run 55 = .ok (.ifCond .ne 7, 3) := by decide +kernel
theorem dX13_run_58 : decode cX13_run 58 = .ok (.iconst 1, 1) := by decide +kernel
theorem dX13_run_59 : decode cX13_run 59 = .ok (.goto 4, 3) := by decide +kernel
theorem dX13_run_62 : decode cX13_run 62 = .ok (.iconst 0, 1) := by decide +kernel
theorem dX13_run_63 : decode cX13_run 63 = .ok (.putfield 193, 3) := by decide +kernel
theorem dX13_run_66 : decode cX13_run 66 = .ok (.aload_n 0, 1) := by decide +kernel
theorem dX13_run_67 : decode cX13_run 67 = .ok (.invokevirtual 197, 3) := by decide +kernel
theorem dX13_run_70 : decode cX13_run 70 = .ok (.bipush 48, 2) := by decide +kernel
theorem dX13_run_72 : decode cX13_run 72 = .ok (.isub, 1) := by decide +kernel
theorem dX13_run_73 : decode cX13_run 73 = .ok (.istore_n 2, 1) := by decide +kernel
theorem dX13_run_74 : decode cX13_run 74 = .ok (.aload_n 0, 1) := by decide +kernel
theorem dX13_run_75 : decode cX13_run 75 = .ok (.dup, 1) := by decide +kernel
theorem dX13_run_76 : decode cX13_run 76 = .ok (.getfield 187, 3) := by decide +kernel
theorem dX13_run_79 : decode cX13_run 79 = .ok (.aload_n 0, 1) := by decide +kernel
theorem dX13_run_80 : decode cX13_run 80 = .ok (.getfield 193, 3) := by decide +kernel
theorem dX13_run_83 : decode cX13_run 83 = .ok (.ifCond .eq 7, 3) := by decide +kernel
theorem dX13_run_86 : decode cX13_run 86 = .ok (.iconst 0, 1) := by decide +kernel
theorem dX13_run_87 : decode cX13_run 87 = .ok (.goto 4, 3) := by decide +kernel
theorem dX13_run_90 : decode cX13_run 90 = .ok (.iconst 1, 1) := by decide +kernel
theorem dX13_run_91 : decode cX13_run 91 = .ok (.iadd, 1) := by decide +kernel
theorem dX13_run_92 : decode cX13_run 92 = .ok (.putfield 187, 3) := by decide +kernel
theorem dX13_run_95 : decode cX13_run 95 = .ok (.aload_n 0, 1) := by decide +kernel
theorem dX13_run_96 : decode cX13_run 96 = .ok (.bipush 58, 2) := by decide +kernel
theorem dX13_run_98 : decode cX13_run 98 = .ok (.invokevirtual 200, 3) := by decide +kernel
theorem dX13_run_101 : decode cX13_run 101 = .ok (.aload_n 0, 1) := by decide +kernel
theorem dX13_run_102 : decode cX13_run 102 = .ok (.dup, 1) := by decide +kernel
theorem dX13_run_103 : decode cX13_run 103 = .ok (.getfield 193, 3) := by decide +kernel
theorem dX13_run_106 : decode cX13_run 106 = .ok (.aload_n 0, 1) := by decide +kernel
theorem dX13_run_107 : decode cX13_run 107 = .ok (.invokevirtual 197, 3) := by decide +kernel
theorem dX13_run_110 : decode cX13_run 110 = .ok (.bipush 49, 2) := by decide +kernel
theorem dX13_run_112 : decode cX13_run 112 = .ok (.bipush 57, 2) := by decide +kernel
theorem dX13_run_114 : decode cX13_run 114 = .ok (.invokestatic 57, 3) := by decide +kernel
theorem dX13_run_117 : decode cX13_run 117 = .ok (.ifCond .ne 7, 3) := by decide +kernel
theorem dX13_run_120 : decode cX13_run 120 = .ok (.iconst 1, 1) := by decide +kernel
theorem dX13_run_121 : decode cX13_run 121 = .ok (.goto 4, 3) := by decide +kernel
theorem dX13_run_124 : decode cX13_run 124 = .ok (.iconst 0, 1) := by decide +kernel
theorem dX13_run_125 : decode cX13_run 125 = .ok (.ior, 1) := by decide +kernel
theorem dX13_run_126 : decode cX13_run 126 = .ok (.putfield 193, 3) := by decide +kernel
theorem dX13_run_129 : decode cX13_run 129 = .ok (.aload_n 0, 1) := by decide +kernel
theorem dX13_run_130 : decode cX13_run 130 = .ok (.getfield 193, 3) := by decide +kernel
theorem dX13_run_133 : decode cX13_run 133 = .ok (.ifCond .eq 7, 3) := by decide +kernel
theorem dX13_run_136 : decode cX13_run 136 = .ok (.iconst 0, 1) := by decide +kernel
theorem dX13_run_137 : decode cX13_run 137 = .ok (.goto 7, 3) := by decide +kernel
theorem dX13_run_140 : decode cX13_run 140 = .ok (.aload_n 0, 1) := by decide +kernel
theorem dX13_run_141 : decode cX13_run 141 = .ok (.invokevirtual 203, 3) := by decide +kernel
theorem dX13_run_144 : decode cX13_run 144 = .ok (.istore_n 3, 1) := by decide +kernel
theorem dX13_run_145 : decode cX13_run 145 = .ok (.iconst 0, 1) := by decide +kernel
theorem dX13_run_146 : decode cX13_run 146 = .ok (.istore 4, 2) := by decide +kernel
theorem dX13_run_148 : decode cX13_run 148 = .ok (.iload 4, 2) := by decide +kernel
theorem dX13_run_150 : decode cX13_run 150 = .ok (.iload_n 3, 1) := by decide +kernel
theorem dX13_run_151 : decode cX13_run 151 = .ok (.if_icmp .ge 39, 3) := by decide +kernel
theorem dX13_run_154 : decode cX13_run 154 = .ok (.aload_n 0, 1) := by decide +kernel
theorem dX13_run_155 : decode cX13_run 155 = .ok (.getfield 206, 3) := by decide +kernel
theorem dX13_run_158 : decode cX13_run 158 = .ok (.sipush 200, 3) := by decide +kernel
theorem dX13_run_161 : decode cX13_run 161 = .ok (.if_icmp .ge 13, 3) := by decide +kernel
theorem dX13_run_164 : decode cX13_run 164 = .ok (.aload_n 0, 1) := by decide +kernel
theorem dX13_run_165 : decode cX13_run 165 = .ok (.getfield 29, 3) := by decide +kernel
theorem dX13_run_168 : decode cX13_run 168 = .ok (.aload_n 0, 1) := by decide +kernel
theorem dX13_run_169 : decode cX13_run 169 = .ok (.getfield 206, 3) := by decide +kernel
theorem dX13_run_172 : decode cX13_run 172 = .ok (.iload_n 2, 1) := by decide +kernel
theorem dX13_run_173 : decode cX13_run 173 = .ok (.iastore, 1) := by decide +kernel
theorem dX13_run_174 : decode cX13_run 174 = .ok (.aload_n 0, 1) := by decide +kernel
theorem dX13_run_175 : decode cX13_run 175 = .ok (.dup, 1) := by decide +kernel
theorem dX13_run_176 : decode cX13_run 176 = .ok (.getfield 206, 3) := by decide +kernel
theorem dX13_run_179 : decode cX13_run 179 = .ok (.iconst 1, 1) := by decide +kernel
theorem dX13_run_180 : decode cX13_run 180 = .ok (.iadd, 1) := by decide +kernel
theorem dX13_run_181 : decode cX13_run 181 = .ok (.putfield 206, 3) := by decide +kernel
theorem dX13_run_184 : decode cX13_run 184 = .ok (.iinc 4 1, 3) := by decide +kernel
theorem dX13_run_187 : decode cX13_run 187 = .ok (.goto (-39), 3) := by decide +kernel
theorem dX13_run_190 : decode cX13_run 190 = .ok (.return_, 1) := by decide +kernel
theorem dX13_load_0 : decode cX13_load 0 = .ok (.aload_n 0, 1) := by decide +kernel
theorem dX13_load_1 : decode cX13_load 1 = .ok (.invokevirtual 68, 3) := by decide +kernel
theorem dX13_load_4 : decode cX13_load 4 = .ok (.aload_n 0, 1) := by decide +kernel
theorem dX13_load_5 : decode cX13_load 5 = .ok (.aload_n 0, 1) := by decide +kernel
theorem dX13_load_6 : decode cX13_load 6 = .ok (.getfield 184, 3) := by decide +kernel
theorem dX13_load_9 : decode cX13_load 9 = .ok (.putfield 190, 3) := by decide +kernel
theorem dX13_load_12 : decode cX13_load 12 = .ok (.aload_n 0, 1) := by decide +kernel
theorem dX13_load_13 : decode cX13_load 13 = .ok (.iconst 0, 1) := by decide +kernel
theorem dX13_load_14 : decode cX13_load 14 = .ok (.putfield 184, 3) := by decide +kernel
theorem dX13_load_17 : decode cX13_load 17 = .ok (.aload_n 0, 1) := by decide +kernel
theorem dX13_load_18 : decode cX13_load 18 = .ok (.iconst 0, 1) := by decide +kernel
theorem dX13_load_19 : decode cX13_load 19 = .ok (.putfield 187, 3) := by decide +kernel
theorem dX13_load_22 : decode cX13_load 22 = .ok (.aload_n 0, 1) := by decide +kernel
theorem dX13_load_23 : decode cX13_load 23 = .ok (.iconst 0, 1) := by decide +kernel
theorem dX13_load_24 : decode cX13_load 24 = .ok (.putfield 206, 3) := by decide +kernel
theorem dX13_load_27 : decode cX13_load 27 = .ok (.aload_n 0, 1) := by decide +kernel
theorem dX13_load_28 : decode cX13_load 28 = .ok (.iconst 0, 1) := by decide +kernel
theorem dX13_load_29 : decode cX13_load 29 = .ok (.putfield 193, 3) := by decide +kernel
theorem dX13_load_32 : decode cX13_load 32 = .ok (.aload_n 0, 1) := by decide +kernel
theorem dX13_load_33 : decode cX13_load 33 = .ok (.getfield 190, 3) := by decide +kernel
theorem dX13_load_36 : decode cX13_load 36 = .ok (.ifCond .le 7, 3) := by decide +kernel
theorem dX13_load_39 : decode cX13_load 39 = .ok (.aload_n 0, 1) := by decide +kernel
theorem dX13_load_40 : decode cX13_load 40 = .ok (.invokevirtual 209, 3) := by decide +kernel
theorem dX13_load_43 : decode cX13_load 43 = .ok (.aload_n 0, 1) := by decide +kernel
theorem dX13_load_44 : decode cX13_load 44 = .ok (.getfield 193, 3) := by decide +kernel
theorem dX13_load_47 : decode cX13_load 47 = .ok (.ifCond .ne 34, 3) := by decide +kernel
theorem dX13_load_50 : decode cX13_load 50 = .ok (.aload_n 0, 1) := by decide +kernel
theorem dX13_load_51 : decode cX13_load 51 = .ok (.getfield 187, 3) := by decide +kernel
theorem dX13_load_54 : decode cX13_load 54 = .ok (.aload_n 0, 1) := by decide +kernel
theorem dX13_load_55 : decode cX13_load 55 = .ok (.getfield 190, 3) := by decide +kernel
theorem dX13_load_58 : decode cX13_load 58 = .ok (.if_icmp .ge 23, 3) := by decide +kernel
theorem dX13_load_61 : decode cX13_load 61 = .ok (.aload_n 0, 1) := by decide +kernel
theorem dX13_load_62 : decode cX13_load 62 = .ok (.bipush 32, 2) := by decide +kernel
theorem dX13_load_64 : decode cX13_load 64 = .ok (.invokevirtual 200, 3) := by decide +kernel
theorem dX13_load_67 : decode cX13_load 67 = .ok (.aload_n 0, 1) := by decide +kernel
theorem dX13_load_68 : decode cX13_load 68 = .ok (.getfield 193, 3) := by decide +kernel
theorem dX13_load_71 : decode cX13_load 71 = .ok (.ifCond .ne (-28), 3) := by decide +kernel
theorem dX13_load_74 : decode cX13_load 74 = .ok (.aload_n 0, 1) := by decide +kernel
theorem dX13_load_75 : decode cX13_load 75 = .ok (.invokevirtual 209, 3) := by decide +kernel
theorem dX13_load_78 : decode cX13_load 78 = .ok (.goto (-35), 3) := by decide +kernel
theorem dX13_load_81 : decode cX13_load 81 = .ok (.aload_n 0, 1) := by decide +kernel
theorem dX13_load_82 : decode cX13_load 82 = .ok (.getfield 193, 3) := by decide +kernel
theorem dX13_load_85 : decode cX13_load 85 = .ok (.ifCond .eq 17, 3) := by decide +kernel
theorem dX13_load_88 : decode cX13_load 88 = .ok (.aload_n 0, 1) := by decide +kernel
theorem dX13_load_89 : decode cX13_load 89 = .ok (.aload_n 0, 1) := by decide +kernel
theorem dX13_load_90 : decode cX13_load 90 = .ok (.getfield 187, 3) := by decide +kernel
theorem dX13_load_93 : decode cX13_load 93 = .ok (.putfield 7, 3) := by decide +kernel
theorem dX13_load_96 : decode cX13_load 96 = .ok (.aload_n 0, 1) := by decide +kernel
theorem dX13_load_97 : decode cX13_load 97 = .ok (.iconst 1, 1) := by decide +kernel
theorem dX13_load_98 : decode cX13_load 98 = .ok (.invokevirtual 61, 3) := by decide +kernel
theorem dX13_load_101 : decode cX13_load 101 = .ok (.ireturn, 1) := by decide +kernel
theorem dX13_load_102 : decode cX13_load 102 = .ok (.aload_n 0, 1) := by decide +kernel
theorem dX13_load_103 : decode cX13_load 103 = .ok (.getfield 206, 3) := by decide +kernel
theorem dX13_load_106 : decode cX13_load 106 = .ok (.sipush 200, 3) := by decide +kernel
theorem dX13_load_109 : decode cX13_load 109 = .ok (.if_icmp .le 9, 3) := by decide +kernel
theorem dX13_load_112 : decode cX13_load 112 = .ok (.aload_n 0, 1) := by decide +kernel
theorem dX13_load_113 : decode cX13_load 113 = .ok (.iconst 2, 1) := by decide +kernel
theorem dX13_load_114 : decode cX13_load 114 = .ok (.invokevirtual 61, 3) := by decide +kernel
theorem dX13_load_117 : decode cX13_load 117 = .ok (.ireturn, 1) := by decide +kernel
theorem dX13_load_118 : decode cX13_load 118 = .ok (.iconst 0, 1) := by decide +kernel
theorem dX13_load_119 : decode cX13_load 119 = .ok (.istore_n 1, 1) := by decide +kernel
theorem dX13_load_120 : decode cX13_load 120 = .ok (.iload_n 1, 1) := by decide +kernel
theorem dX13_load_121 : decode cX13_load 121 = .ok (.sipush 200, 3) := by decide +kernel
theorem dX13_load_124 : decode cX13_load 124 = .ok (.if_icmp .ge 35, 3) := by decide +kernel
theorem dX13_load_127 : decode cX13_load 127 = .ok (.aload_n 0, 1) := by decide +kernel
theorem dX13_load_128 : decode cX13_load 128 = .ok (.getfield 16, 3) := by decide +kernel
theorem dX13_load_131 : decode cX13_load 131 = .ok (.iconst 4, 1) := by decide +kernel
theorem dX13_load_132 : decode cX13_load 132 = .ok (.iload_n 1, 1) := by decide +kernel
theorem dX13_load_133 : decode cX13_load 133 = .ok (.iadd, 1) := by decide +kernel
theorem dX13_load_134 : decode cX13_load 134 = .ok (.iload_n 1, 1) := by decide +kernel
theorem dX13_load_135 : decode cX13_load 135 = .ok (.aload_n 0, 1) := by decide +kernel
theorem dX13_load_136 : decode cX13_load 136 = .ok (.getfield 206, 3) := by decide +kernel
theorem dX13_load_139 : decode cX13_load 139 = .ok (.if_icmp .ge 12, 3) := by decide +kernel
theorem dX13_load_142 : decode cX13_load 142 = .ok (.aload_n 0, 1) := by decide +kernel
theorem dX13_load_143 : decode cX13_load 143 = .ok (.getfield 29, 3) := by decide +kernel
theorem dX13_load_146 : decode cX13_load 146 = .ok (.iload_n 1, 1) := by decide +kernel
theorem dX13_load_147 : decode cX13_load 147 = .ok (.iaload, 1) := by decide +kernel
theorem dX13_load_148 : decode cX13_load 148 = .ok (.goto 4, 3) := by decide +kernel
theorem dX13_load_151 : decode cX13_load 151 = .ok (.iconst 0, 1) := by decide +kernel
theorem dX13_load_152 : decode cX13_load 152 = .ok (.iastore, 1) := by decide +kernel
theorem dX13_load_153 : decode cX13_load 153 = .ok (.iinc 1 1, 3) := by decide +kernel
theorem dX13_load_156 : decode cX13_load 156 = .ok (.goto (-36), 3) := by decide +kernel
theorem dX13_load_159 : decode cX13_load 159 = .ok (.iconst 0, 1) := by decide +kernel
theorem dX13_load_160 : decode cX13_load 160 = .ok (.istore_n 1, 1) := by decide +kernel
theorem dX13_load_161 : decode cX13_load 161 = .ok (.iload_n 1, 1) := by decide +kernel
theorem dX13_load_162 : decode cX13_load 162 = .ok (.bipush 6, 2) := by decide +kernel
theorem dX13_load_164 : decode cX13_load 164 = .ok (.if_icmp .ge 20, 3) := by decide +kernel
theorem dX13_load_167 : decode cX13_load 167 = .ok (.aload_n 0, 1) := by decide +kernel
theorem dX13_load_168 : decode cX13_load 168 = .ok (.getfield 16, 3) := by decide +kernel
theorem dX13_load_171 : decode cX13_load 171 = .ok (.sipush 204, 3) := by decide +kernel
theorem dX13_load_174 : decode cX13_load 174 = .ok (.iload_n 1, 1) := by decide +kernel
theorem dX13_load_175 : decode cX13_load 175 = .ok (.iadd, 1) := by decide +kernel
theorem dX13_load_176 : decode cX13_load 176 = .ok (.iconst 0, 1) := by decide +kernel
theorem dX13_load_177 : decode cX13_load 177 = .ok (.iastore, 1) := by decide +kernel
theorem dX13_load_178 : decode cX13_load 178 = .ok (.iinc 1 1, 3) := by decide +kernel
theorem dX13_load_181 : decode cX13_load 181 = .ok (.goto (-20), 3) := by decide +kernel
theorem dX13_load_184 : decode cX13_load 184 = .ok (.aload_n 0, 1) := by decide +kernel
theorem dX13_load_185 : decode cX13_load 185 = .ok (.getfield 16, 3) := by decide +kernel
theorem dX13_load_188 : decode cX13_load 188 = .ok (.iconst 1, 1) := by decide +kernel
theorem dX13_load_189 : decode cX13_load 189 = .ok (.iconst 0, 1) := by decide +kernel
theorem dX13_load_190 : decode cX13_load 190 = .ok (.iastore, 1) := by decide +kernel
theorem dX13_load_191 : decode cX13_load 191 = .ok (.aload_n 0, 1) := by decide +kernel
theorem dX13_load_192 : decode cX13_load 192 = .ok (.getfield 16, 3) := by decide +kernel
theorem dX13_load_195 : decode cX13_load 195 = .ok (.iconst 0, 1) := by decide +kernel
theorem dX13_load_196 : decode cX13_load 196 = .ok (.aload_n 0, 1) := by decide +kernel
theorem dX13_load_197 : decode cX13_load 197 = .ok (.getfield 206, 3) := by decide +kernel
theorem dX13_load_200 : decode cX13_load 200 = .ok (.iastore, 1) := by decide +kernel
theorem dX13_load_201 : decode cX13_load 201 = .ok (.aload_n 0, 1) := by decide +kernel
theorem dX13_load_202 : decode cX13_load 202 = .ok (.aload_n 0, 1) := by decide +kernel
theorem dX13_load_203 : decode cX13_load 203 = .ok (.getfield 16, 3) := by decide +kernel
theorem dX13_load_206 : decode cX13_load 206 = .ok (.iconst 0, 1) := by decide +kernel
theorem dX13_load_207 : decode cX13_load 207 = .ok (.iaload, 1) := by decide +kernel
theorem dX13_load_208 : decode cX13_load 208 = .ok (.invokevirtual 75, 3) := by decide +kernel
theorem dX13_load_211 : decode cX13_load 211 = .ok (.ireturn, 1) := by decide +kernel
theorem dX13_word_0 : decode cX13_word 0 = .ok (.iconst 0, 1) := by decide +kernel
theorem dX13_word_1 : decode cX13_word 1 = .ok (.istore_n 1, 1) := by decide +kernel
theorem dX13_word_2 : decode cX13_word 2 = .ok (.iload_n 1, 1) := by decide +kernel
theorem dX13_word_3 : decode cX13_word 3 = .ok (.bipush 11, 2) := by decide +kernel
theorem dX13_word_5 : decode cX13_word 5 = .ok (.if_icmp .ge 16, 3) := by decide +kernel
theorem dX13_word_8 : decode cX13_word 8 = .ok (.aload_n 0, 1) := by decide +kernel
theorem dX13_word_9 : decode cX13_word 9 = .ok (.getfield 38, 3) := by decide +kernel
theorem dX13_word_12 : decode cX13_word 12 = .ok (.iload_n 1, 1) := by decide +kernel
theorem dX13_word_13 : decode cX13_word 13 = .ok (.iconst 1, 1) := by decide +kernel
theorem dX13_word_14 : decode cX13_word 14 = .ok (.iastore, 1) := by decide +kernel
theorem dX13_word_15 : decode cX13_word 15 = .ok (.iinc 1 1, 3) := by decide +kernel
theorem dX13_word_18 : decode cX13_word 18 = .ok (.goto (-16), 3) := by decide +kernel
theorem dX13_word_21 : decode cX13_word 21 = .ok (.iconst 0, 1) := by decide +kernel
theorem dX13_word_22 : decode cX13_word 22 = .ok (.istore_n 1, 1) := by decide +kernel
theorem dX13_word_23 : decode cX13_word 23 = .ok (.iconst (-1), 1) := by decide +kernel
theorem dX13_word_24 : decode cX13_word 24 = .ok (.istore_n 2, 1) := by decide +kernel
theorem dX13_word_25 : decode cX13_word 25 = .ok (.iload_n 2, 1) := by decide +kernel
theorem dX13_word_26 : decode cX13_word 26 = .ok (.ifCond .ge 196, 3) := by decide +kernel
theorem dX13_word_29 : decode cX13_word 29 = .ok (.aload_n 0, 1) := by decide +kernel
theorem dX13_word_30 : decode cX13_word 30 = .ok (.getfield 193, 3) := by decide +kernel
theorem dX13_word_33 : decode cX13_word 33 = .ok (.ifCond .ne 189, 3) := by decide +kernel
theorem dX13_word_36 : decode cX13_word 36 = .ok (.iconst 0, 1) := by decide +kernel
theorem dX13_word_37 : decode cX13_word 37 = .ok (.istore_n 3, 1) := by decide +kernel
theorem dX13_word_38 : decode cX13_word 38 = .ok (.iconst 0, 1) := by decide +kernel
theorem dX13_word_39 : decode cX13_word 39 = .ok (.istore 4, 2) := by decide +kernel
theorem dX13_word_41 : decode cX13_word 41 = .ok (.iload 4, 2) := by decide +kernel
theorem dX13_word_43 : decode cX13_word 43 = .ok (.bipush 11, 2) := by decide +kernel
theorem dX13_word_45 : decode cX13_word 45 = .ok (.if_icmp .ge 85, 3) := by decide +kernel
theorem dX13_word_48 : decode cX13_word 48 = .ok (.aload_n 0, 1) := by decide +kernel
theorem dX13_word_49 : decode cX13_word 49 = .ok (.getfield 38, 3) := by decide +kernel
theorem dX13_word_52 : decode cX13_word 52 = .ok (.iload 4, 2) := by decide +kernel
theorem dX13_word_54 : decode cX13_word 54 = .ok (.dup2, 1) := by decide +kernel
theorem dX13_word_55 : decode cX13_word 55 = .ok (.iaload, 1) := by decide +kernel
theorem dX13_word_56 : decode cX13_word 56 = .ok (.aload_n 0, 1) := by decide +kernel
theorem dX13_word_57 : decode cX13_word 57 = .ok (.getfield 44, 3) := by decide +kernel
theorem dX13_word_60 : decode cX13_word 60 = .ok (.iload 4, 2) := by decide +kernel
theorem dX13_word_62 : decode cX13_word 62 = .ok (.iaload, 1) := by decide +kernel
theorem dX13_word_63 : decode cX13_word 63 = .ok (.iload_n 1, 1) := by decide +kernel
theorem dX13_word_64 : decode cX13_word 64 = .ok (.iadd, 1) := by decide +kernel
theorem dX13_word_65 : decode cX13_word 65 = .ok (.aload_n 0, 1) := by decide +kernel
theorem dX13_word_66 : decode cX13_word 66 = .ok (.getfield 44, 3) := by decide +kernel
theorem dX13_word_69 : decode cX13_word 69 = .ok (.iload 4, 2) := by decide +kernel
theorem dX13_word_71 : decode cX13_word 71 = .ok (.iconst 1, 1) := by decide +kernel
theorem dX13_word_72 : decode cX13_word 72 = .ok (.iadd, 1) := by decide +kernel
theorem dX13_word_73 : decode cX13_word 73 = .ok (.iaload, 1) := by decide +kernel
theorem dX13_word_74 : decode cX13_word 74 = .ok (.if_icmp .ge 28, 3) := by decide +kernel
theorem dX13_word_77 : decode cX13_word 77 = .ok (.aload_n 0, 1) := by decide +kernel
theorem dX13_word_78 : decode cX13_word 78 = .ok (.getfield 41, 3) := by decide +kernel
theorem dX13_word_81 : decode cX13_word 81 = .ok (.aload_n 0, 1) := by decide +kernel
theorem dX13_word_82 : decode cX13_word 82 = .ok (.getfield 44, 3) := by decide +kernel
theorem dX13_word_85 : decode cX13_word 85 = .ok (.iload 4, 2) := by decide +kernel
theorem dX13_word_87 : decode cX13_word 87 = .ok (.iaload, 1) := by decide +kernel
theorem dX13_word_88 : decode cX13_word 88 = .ok (.iload_n 1, 1) := by decide +kernel
theorem dX13_word_89 : decode cX13_word 89 = .ok (.iadd, 1) := by decide +kernel
theorem dX13_word_90 : decode cX13_word 90 = .ok (.iaload, 1) := by decide +kernel
theorem dX13_word_91 : decode cX13_word 91 = .ok (.aload_n 0, 1) := by decide +kernel
theorem dX13_word_92 : decode cX13_word 92 = .ok (.invokevirtual 197, 3) := by decide +kernel
theorem dX13_word_95 : decode cX13_word 95 = .ok (.if_icmp .ne 7, 3) := by decide +kernel
theorem dX13_word_98 : decode cX13_word 98 = .ok (.iconst 1, 1) := by decide +kernel
theorem dX13_word_99 : decode cX13_word 99 = .ok (.goto 4, 3) := by decide +kernel
theorem dX13_word_102 : decode cX13_word 102 = .ok (.iconst 0, 1) := by decide +kernel
theorem dX13_word_103 : decode cX13_word 103 = .ok (.iand, 1) := by decide +kernel
theorem dX13_word_104 : decode cX13_word 104 = .ok (.iastore, 1) := by decide +kernel
theorem dX13_word_105 : decode cX13_word 105 = .ok (.iload_n 3, 1) := by decide +kernel
theorem dX13_word_106 : decode cX13_word 106 = .ok (.aload_n 0, 1) := by decide +kernel
theorem dX13_word_107 : decode cX13_word 107 = .ok (.getfield 38, 3) := by decide +kernel
theorem dX13_word_110 : decode cX13_word 110 = .ok (.iload 4, 2) := by decide +kernel
theorem dX13_word_112 : decode cX13_word 112 = .ok (.iaload, 1) := by decide +kernel
theorem dX13_word_113 : decode cX13_word 113 = .ok (.iconst 1, 1) := by decide +kernel
theorem dX13_word_114 : decode cX13_word 114 = .ok (.if_icmp .ne 7, 3) := by decide +kernel
theorem dX13_word_117 : decode cX13_word 117 = .ok (.iconst 1, 1) := by decide +kernel
theorem dX13_word_118 : decode cX13_word 118 = .ok (.goto 4, 3) := by decide +kernel
theorem dX13_word_121 : decode cX13_word 121 = .ok (.iconst 0, 1) := by decide +kernel
theorem dX13_word_122 : decode cX13_word 122 = .ok (.ior, 1) := by decide +kernel
theorem dX13_word_123 : decode cX13_word 123 = .ok (.istore_n 3, 1) := by decide +kernel
theorem dX13_word_124 : decode cX13_word 124 = .ok (.iinc 4 1, 3) := by decide +kernel
theorem dX13_word_127 : decode cX13_word 127 = .ok (.goto (-86), 3) := by decide +kernel
theorem dX13_word_130 : decode cX13_word 130 = .ok (.aload_n 0, 1) := by decide +kernel
theorem dX13_word_131 : decode cX13_word 131 = .ok (.iload_n 3, 1) := by decide +kernel
theorem dX13_word_132 : decode cX13_word 132 = .ok (.ifCond .ne 7, 3) := by decide +kernel
theorem dX13_word_135 : decode cX13_word 135 = .ok (.iconst 1, 1) := by decide +kernel
theorem dX13_word_136 : decode cX13_word 136 = .ok (.goto 4, 3) := by decide +kernel
theorem dX13_word_139 : decode cX13_word 139 = .ok (.iconst 0, 1) := by decide +kernel
theorem dX13_word_140 : decode cX13_word 140 = .ok (.putfield 193, 3) := by decide +kernel
theorem dX13_word_143 : decode cX13_word 143 = .ok (.aload_n 0, 1) := by decide +kernel
theorem dX13_word_144 : decode cX13_word 144 = .ok (.dup, 1) := by decide +kernel
theorem dX13_word_145 : decode cX13_word 145 = .ok (.getfield 187, 3) := by decide +kernel
theorem dX13_word_148 : decode cX13_word 148 = .ok (.iload_n 3, 1) := by decide +kernel
theorem dX13_word_149 : decode cX13_word 149 = .ok (.ifCond .eq 7, 3) := by decide +kernel
theorem dX13_word_152 : decode cX13_word 152 = .ok (.iconst 1, 1) := by decide +kernel
theorem dX13_word_153 : decode cX13_word 153 = .ok (.goto 4, 3) := by decide +kernel
theorem dX13_word_156 : decode cX13_word 156 = .ok (.iconst 0, 1) := by decide +kernel
theorem dX13_word_157 : decode cX13_word 157 = .ok (.iadd, 1) := by decide +kernel
theorem dX13_word_158 : decode cX13_word 158 = .ok (.putfield 187, 3) := by decide +kernel
theorem dX13_word_161 : decode cX13_word 161 = .ok (.iinc 1 1, 3) := by decide +kernel
theorem dX13_word_164 : decode cX13_word 164 = .ok (.iconst 0, 1) := by decide +kernel
theorem dX13_word_165 : decode cX13_word 165 = .ok (.istore 4, 2) := by decide +kernel
theorem dX13_word_167 : decode cX13_word 167 = .ok (.iload 4, 2) := by decide +kernel
theorem dX13_word_169 : decode cX13_word 169 = .ok (.bipush 11, 2) := by decide +kernel
theorem dX13_word_171 : decode cX13_word 171 = .ok (.if_icmp .ge 48, 3) := by decide +kernel
theorem dX13_word_174 : decode cX13_word 174 = .ok (.aload_n 0, 1) := by decide +kernel
theorem dX13_word_175 : decode cX13_word 175 = .ok (.getfield 38, 3) := by decide +kernel
theorem dX13_word_178 : decode cX13_word 178 = .ok (.iload 4, 2) := by decide +kernel
theorem dX13_word_180 : decode cX13_word 180 = .ok (.iaload, 1) := by decide +kernel
theorem dX13_word_181 : decode cX13_word 181 = .ok (.iconst 1, 1) := by decide +kernel
theorem dX13_word_182 : decode cX13_word 182 = .ok (.if_icmp .ne 29, 3) := by decide +kernel
theorem dX13_word_185 : decode cX13_word 185 = .ok (.aload_n 0, 1) := by decide +kernel
theorem dX13_word_186 : decode cX13_word 186 = .ok (.getfield 44, 3) := by decide +kernel
theorem dX13_word_189 : decode cX13_word 189 = .ok (.iload 4, 2) := by decide +kernel
theorem dX13_word_191 : decode cX13_word 191 = .ok (.iaload, 1) := by decide +kernel
theorem dX13_word_192 : decode cX13_word 192 = .ok (.iload_n 1, 1) := by decide +kernel
theorem dX13_word_193 : decode cX13_word 193 = .ok (.iadd, 1) := by decide +kernel
theorem dX13_word_194 : decode cX13_word 194 = .ok (.aload_n 0, 1) := by decide +kernel
theorem dX13_word_195 : decode cX13_word 195 = .ok (.getfield 44, 3) := by decide +kernel
theorem dX13_word_198 : decode cX13_word 198 = .ok (.iload 4, 2) := by decide +kernel
theorem dX13_word_200 : decode cX13_word 200 = .ok (.iconst 1, 1) := by decide +kernel
theorem dX13_word_201 : decode cX13_word 201 = .ok (.iadd, 1) := by decide +kernel
theorem dX13_word_202 : decode cX13_word 202 = .ok (.iaload, 1) := by decide +kernel
theorem dX13_word_203 : decode cX13_word 203 = .ok (.if_icmp .ne 8, 3) := by decide +kernel
theorem dX13_word_206 : decode cX13_word 206 = .ok (.iload 4, 2) := by decide +kernel
theorem dX13_word_208 : decode cX13_word 208 = .ok (.goto 4, 3) := by decide +kernel
theorem dX13_word_211 : decode cX13_word 211 = .ok (.iload_n 2, 1) := by decide +kernel
theorem dX13_word_212 : decode cX13_word 212 = .ok (.istore_n 2, 1) := by decide +kernel
theorem dX13_word_213 : decode cX13_word 213 = .ok (.iinc 4 1, 3) := by decide +kernel
theorem dX13_word_216 : decode cX13_word 216 = .ok (.goto (-49), 3) := by decide +kernel
theorem dX13_word_219 : decode cX13_word 219 = .ok (.goto (-194), 3) := by decide +kernel
theorem dX13_word_222 : decode cX13_word 222 = .ok (.iload_n 2, 1) := by decide +kernel
theorem dX13_word_223 : decode cX13_word 223 = .ok (.ireturn, 1) := by decide +kernel
theorem dX13_does_0 : decode cX13_does 0 = .ok (.iload_n 1, 1) := by decide +kernel
theorem dX13_does_1 : decode cX13_does 1 = .ok (.tableswitch 129 0 9 #[55, 64, 71, 78, 85, 92, 99, 108, 117, 123], 55) := by decide +kernel
theorem dX13_does_56 : decode cX13_does 56 = .ok (.aload_n 0, 1) := by decide +kernel
theorem dX13_does_57 : decode cX13_does 57 = .ok (.iload_n 2, 1) := by decide +kernel
theorem dX13_does_58 : decode cX13_does 58 = .ok (.iload_n 3, 1) := by decide +kernel
theorem dX13_does_59 : decode cX13_does 59 = .ok (.iload 4, 2) := by decide +kernel
theorem dX13_does_61 : decode cX13_does 61 = .ok (.invokevirtual 71, 3) := by decide +kernel
theorem dX13_does_64 : decode cX13_does 64 = .ok (.ireturn, 1) := by decide +kernel
theorem dX13_does_65 : decode cX13_does 65 = .ok (.aload_n 0, 1) := by decide +kernel
theorem dX13_does_66 : decode cX13_does 66 = .ok (.iload_n 2, 1) := by decide +kernel
theorem dX13_does_67 : decode cX13_does 67 = .ok (.iload_n 3, 1) := by decide +kernel
theorem dX13_does_68 : decode cX13_does 68 = .ok (.invokevirtual 82, 3) := by decide +kernel
theorem dX13_does_71 : decode cX13_does 71 = .ok (.ireturn, 1) := by decide +kernel
theorem dX13_does_72 : decode cX13_does 72 = .ok (.aload_n 0, 1) := by decide +kernel
theorem dX13_does_73 : decode cX13_does 73 = .ok (.iload_n 2, 1) := by decide +kernel
theorem dX13_does_74 : decode cX13_does 74 = .ok (.iload_n 3, 1) := by decide +kernel
theorem dX13_does_75 : decode cX13_does 75 = .ok (.invokevirtual 97, 3) := by decide +kernel
theorem dX13_does_78 : decode cX13_does 78 = .ok (.ireturn, 1) := by decide +kernel
theorem dX13_does_79 : decode cX13_does 79 = .ok (.aload_n 0, 1) := by decide +kernel
theorem dX13_does_80 : decode cX13_does 80 = .ok (.iload_n 2, 1) := by decide +kernel
theorem dX13_does_81 : decode cX13_does 81 = .ok (.iload_n 3, 1) := by decide +kernel
theorem dX13_does_82 : decode cX13_does 82 = .ok (.invokevirtual 100, 3) := by decide +kernel
theorem dX13_does_85 : decode cX13_does 85 = .ok (.ireturn, 1) := by decide +kernel
theorem dX13_does_86 : decode cX13_does 86 = .ok (.aload_n 0, 1) := by decide +kernel
theorem dX13_does_87 : decode cX13_does 87 = .ok (.iload_n 2, 1) := by decide +kernel
theorem dX13_does_88 : decode cX13_does 88 = .ok (.iload_n 3, 1) := by decide +kernel
theorem dX13_does_89 : decode cX13_does 89 = .ok (.invokevirtual 106, 3) := by decide +kernel
theorem dX13_does_92 : decode cX13_does 92 = .ok (.ireturn, 1) := by decide +kernel
theorem dX13_does_93 : decode cX13_does 93 = .ok (.aload_n 0, 1) := by decide +kernel
theorem dX13_does_94 : decode cX13_does 94 = .ok (.iload_n 2, 1) := by decide +kernel
theorem dX13_does_95 : decode cX13_does 95 = .ok (.iload_n 3, 1) := by decide +kernel
theorem dX13_does_96 : decode cX13_does 96 = .ok (.invokevirtual 112, 3) := by decide +kernel
theorem dX13_does_99 : decode cX13_does 99 = .ok (.ireturn, 1) := by decide +kernel
theorem dX13_does_100 : decode cX13_does 100 = .ok (.aload_n 0, 1) := by decide +kernel
theorem dX13_does_101 : decode cX13_does 101 = .ok (.iload_n 2, 1) := by decide +kernel
theorem dX13_does_102 : decode cX13_does 102 = .ok (.iload_n 3, 1) := by decide +kernel
theorem dX13_does_103 : decode cX13_does 103 = .ok (.iload 4, 2) := by decide +kernel
theorem dX13_does_105 : decode cX13_does 105 = .ok (.invokevirtual 103, 3) := by decide +kernel
theorem dX13_does_108 : decode cX13_does 108 = .ok (.ireturn, 1) := by decide +kernel
theorem dX13_does_109 : decode cX13_does 109 = .ok (.aload_n 0, 1) := by decide +kernel
theorem dX13_does_110 : decode cX13_does 110 = .ok (.iload_n 2, 1) := by decide +kernel
theorem dX13_does_111 : decode cX13_does 111 = .ok (.iload_n 3, 1) := by decide +kernel
theorem dX13_does_112 : decode cX13_does 112 = .ok (.iload 4, 2) := by decide +kernel
theorem dX13_does_114 : decode cX13_does 114 = .ok (.invokevirtual 109, 3) := by decide +kernel
theorem dX13_does_117 : decode cX13_does 117 = .ok (.ireturn, 1) := by decide +kernel
theorem dX13_does_118 : decode cX13_does 118 = .ok (.aload_n 0, 1) := by decide +kernel
theorem dX13_does_119 : decode cX13_does 119 = .ok (.iload_n 2, 1) := by decide +kernel
theorem dX13_does_120 : decode cX13_does 120 = .ok (.invokevirtual 115, 3) := by decide +kernel
theorem dX13_does_123 : decode cX13_does 123 = .ok (.ireturn, 1) := by decide +kernel
theorem dX13_does_124 : decode cX13_does 124 = .ok (.aload_n 0, 1) := by decide +kernel
theorem dX13_does_125 : decode cX13_does 125 = .ok (.iload_n 2, 1) := by decide +kernel
theorem dX13_does_126 : decode cX13_does 126 = .ok (.invokevirtual 118, 3) := by decide +kernel
theorem dX13_does_129 : decode cX13_does 129 = .ok (.ireturn, 1) := by decide +kernel
theorem dX13_does_130 : decode cX13_does 130 = .ok (.aload_n 0, 1) := by decide +kernel
theorem dX13_does_131 : decode cX13_does 131 = .ok (.iload_n 2, 1) := by decide +kernel
theorem dX13_does_132 : decode cX13_does 132 = .ok (.invokevirtual 121, 3) := by decide +kernel
theorem dX13_does_135 : decode cX13_does 135 = .ok (.ireturn, 1) := by decide +kernel
theorem dX13_behind_0 : decode cX13_behind 0 = .ok (.aload_n 0, 1) := by decide +kernel
theorem dX13_behind_1 : decode cX13_behind 1 = .ok (.bipush 32, 2) := by decide +kernel
theorem dX13_behind_3 : decode cX13_behind 3 = .ok (.invokevirtual 200, 3) := by decide +kernel
theorem dX13_behind_6 : decode cX13_behind 6 = .ok (.aload_n 0, 1) := by decide +kernel
theorem dX13_behind_7 : decode cX13_behind 7 = .ok (.getfield 193, 3) := by decide +kernel
theorem dX13_behind_10 : decode cX13_behind 10 = .ok (.ifCond .eq 7, 3) := by decide +kernel
theorem dX13_behind_13 : decode cX13_behind 13 = .ok (.iconst 0, 1) := by decide +kernel
theorem dX13_behind_14 : decode cX13_behind 14 = .ok (.goto 7, 3) := by decide +kernel
theorem dX13_behind_17 : decode cX13_behind 17 = .ok (.aload_n 0, 1) := by decide +kernel
theorem dX13_behind_18 : decode cX13_behind 18 = .ok (.invokevirtual 203, 3) := by decide +kernel
theorem dX13_behind_21 : decode cX13_behind 21 = .ok (.ireturn, 1) := by decide +kernel
theorem dX13_shift_0 : decode cX13_shift 0 = .ok (.aload_n 0, 1) := by decide +kernel
theorem dX13_shift_1 : decode cX13_shift 1 = .ok (.bipush 32, 2) := by decide +kernel
theorem dX13_shift_3 : decode cX13_shift 3 = .ok (.invokevirtual 200, 3) := by decide +kernel
theorem dX13_shift_6 : decode cX13_shift 6 = .ok (.aload_n 0, 1) := by decide +kernel
theorem dX13_shift_7 : decode cX13_shift 7 = .ok (.invokevirtual 197, 3) := by decide +kernel
theorem dX13_shift_10 : decode cX13_shift 10 = .ok (.bipush 45, 2) := by decide +kernel
theorem dX13_shift_12 : decode cX13_shift 12 = .ok (.if_icmp .ne 7, 3) := by decide +kernel
theorem dX13_shift_15 : decode cX13_shift 15 = .ok (.iconst 1, 1) := by decide +kernel
theorem dX13_shift_16 : decode cX13_shift 16 = .ok (.goto 4, 3) := by decide +kernel
theorem dX13_shift_19 : decode cX13_shift 19 = .ok (.iconst 0, 1) := by decide +kernel
theorem dX13_shift_20 : decode cX13_shift 20 = .ok (.istore_n 1, 1) := by decide +kernel
theorem dX13_shift_21 : decode cX13_shift 21 = .ok (.aload_n 0, 1) := by decide +kernel
theorem dX13_shift_22 : decode cX13_shift 22 = .ok (.iload_n 1, 1) := by decide +kernel
theorem dX13_shift_23 : decode cX13_shift 23 = .ok (.ifCond .eq 8, 3) := by decide +kernel
theorem dX13_shift_26 : decode cX13_shift 26 = .ok (.bipush 45, 2) := by decide +kernel
theorem dX13_shift_28 : decode cX13_shift 28 = .ok (.goto 5, 3) := by decide +kernel
theorem dX13_shift_31 : decode cX13_shift 31 = .ok (.bipush 43, 2) := by decide +kernel
theorem dX13_shift_33 : decode cX13_shift 33 = .ok (.invokevirtual 200, 3) := by decide +kernel
theorem dX13_shift_36 : decode cX13_shift 36 = .ok (.aload_n 0, 1) := by decide +kernel
theorem dX13_shift_37 : decode cX13_shift 37 = .ok (.getfield 193, 3) := by decide +kernel
theorem dX13_shift_40 : decode cX13_shift 40 = .ok (.ifCond .eq 7, 3) := by decide +kernel
theorem dX13_shift_43 : decode cX13_shift 43 = .ok (.iconst 0, 1) := by decide +kernel
theorem dX13_shift_44 : decode cX13_shift 44 = .ok (.goto 7, 3) := by decide +kernel
theorem dX13_shift_47 : decode cX13_shift 47 = .ok (.aload_n 0, 1) := by decide +kernel
theorem dX13_shift_48 : decode cX13_shift 48 = .ok (.invokevirtual 203, 3) := by decide +kernel
theorem dX13_shift_51 : decode cX13_shift 51 = .ok (.istore_n 2, 1) := by decide +kernel
theorem dX13_shift_52 : decode cX13_shift 52 = .ok (.iload_n 1, 1) := by decide +kernel
theorem dX13_shift_53 : decode cX13_shift 53 = .ok (.ifCond .eq 8, 3) := by decide +kernel
theorem dX13_shift_56 : decode cX13_shift 56 = .ok (.iload_n 2, 1) := by decide +kernel
theorem dX13_shift_57 : decode cX13_shift 57 = .ok (.ineg, 1) := by decide +kernel
theorem dX13_shift_58 : decode cX13_shift 58 = .ok (.goto 4, 3) := by decide +kernel
theorem dX13_shift_61 : decode cX13_shift 61 = .ok (.iload_n 2, 1) := by decide +kernel
theorem dX13_shift_62 : decode cX13_shift 62 = .ok (.ireturn, 1) := by decide +kernel
theorem dX13_command_0 : decode cX13_command 0 = .ok (.aload_n 0, 1) := by decide +kernel
theorem dX13_command_1 : decode cX13_command 1 = .ok (.invokevirtual 212, 3) := by decide +kernel
theorem dX13_command_4 : decode cX13_command 4 = .ok (.istore_n 1, 1) := by decide +kernel
theorem dX13_command_5 : decode cX13_command 5 = .ok (.iconst 0, 1) := by decide +kernel
theorem dX13_command_6 : decode cX13_command 6 = .ok (.istore_n 2, 1) := by decide +kernel
theorem dX13_command_7 : decode cX13_command 7 = .ok (.iconst 0, 1) := by decide +kernel
theorem dX13_command_8 : decode cX13_command 8 = .ok (.istore_n 3, 1) := by decide +kernel
theorem dX13_command_9 : decode cX13_command 9 = .ok (.aload_n 0, 1) := by decide +kernel
theorem dX13_command_10 : decode cX13_command 10 = .ok (.getfield 193, 3) := by decide +kernel
theorem dX13_command_13 : decode cX13_command 13 = .ok (.ifCond .eq 7, 3) := by decide +kernel
theorem dX13_command_16 : decode cX13_command 16 = .ok (.iconst 0, 1) := by decide +kernel
theorem dX13_command_17 : decode cX13_command 17 = .ok (.goto 7, 3) := by decide +kernel
theorem dX13_command_20 : decode cX13_command 20 = .ok (.aload_n 0, 1) := by decide +kernel
theorem dX13_command_21 : decode cX13_command 21 = .ok (.invokevirtual 203, 3) := by decide +kernel
theorem dX13_command_24 : decode cX13_command 24 = .ok (.istore 4, 2) := by decide +kernel
theorem dX13_command_26 : decode cX13_command 26 = .ok (.iload_n 1, 1) := by decide +kernel
theorem dX13_command_27 : decode cX13_command 27 = .ok (.bipush 8, 2) := by decide +kernel
theorem dX13_command_29 : decode cX13_command 29 = .ok (.if_icmp .ge 15, 3) := by decide +kernel
theorem dX13_command_32 : decode cX13_command 32 = .ok (.aload_n 0, 1) := by decide +kernel
theorem dX13_command_33 : decode cX13_command 33 = .ok (.getfield 193, 3) := by decide +kernel
theorem dX13_command_36 : decode cX13_command 36 = .ok (.ifCond .ne 8, 3) := by decide +kernel
theorem dX13_command_39 : decode cX13_command 39 = .ok (.aload_n 0, 1) := by decide +kernel
theorem dX13_command_40 : decode cX13_command 40 = .ok (.invokevirtual 215, 3) := by decide +kernel
theorem dX13_command_43 : decode cX13_command 43 = .ok (.istore_n 2, 1) := by decide +kernel
theorem dX13_command_44 : decode cX13_command 44 = .ok (.iload_n 1, 1) := by decide +kernel
theorem dX13_command_45 : decode cX13_command 45 = .ok (.ifCond .eq 9, 3) := by decide +kernel
theorem dX13_command_48 : decode cX13_command 48 = .ok (.iload_n 1, 1) := by decide +kernel
theorem dX13_command_49 : decode cX13_command 49 = .ok (.bipush 7, 2) := by decide +kernel
theorem dX13_command_51 : decode cX13_command 51 = .ok (.if_icmp .ne 15, 3) := by decide +kernel
theorem dX13_command_54 : decode cX13_command 54 = .ok (.aload_n 0, 1) := by decide +kernel
theorem dX13_command_55 : decode cX13_command 55 = .ok (.getfield 193, 3) := by decide +kernel
theorem dX13_command_58 : decode cX13_command 58 = .ok (.ifCond .ne 8, 3) := by decide +kernel
theorem dX13_command_61 : decode cX13_command 61 = .ok (.aload_n 0, 1) := by decide +kernel
theorem dX13_command_62 : decode cX13_command 62 = .ok (.invokevirtual 215, 3) := by decide +kernel
theorem dX13_command_65 : decode cX13_command 65 = .ok (.istore_n 3, 1) := by decide +kernel
theorem dX13_command_66 : decode cX13_command 66 = .ok (.iload_n 1, 1) := by decide +kernel
theorem dX13_command_67 : decode cX13_command 67 = .ok (.bipush 6, 2) := by decide +kernel
theorem dX13_command_69 : decode cX13_command 69 = .ok (.if_icmp .ne 15, 3) := by decide +kernel
theorem dX13_command_72 : decode cX13_command 72 = .ok (.aload_n 0, 1) := by decide +kernel
theorem dX13_command_73 : decode cX13_command 73 = .ok (.getfield 193, 3) := by decide +kernel
theorem dX13_command_76 : decode cX13_command 76 = .ok (.ifCond .ne 8, 3) := by decide +kernel
theorem dX13_command_79 : decode cX13_command 79 = .ok (.aload_n 0, 1) := by decide +kernel
theorem dX13_command_80 : decode cX13_command 80 = .ok (.invokevirtual 218, 3) := by decide +kernel
theorem dX13_command_83 : decode cX13_command 83 = .ok (.istore_n 3, 1) := by decide +kernel
theorem dX13_command_84 : decode cX13_command 84 = .ok (.aload_n 0, 1) := by decide +kernel
theorem dX13_command_85 : decode cX13_command 85 = .ok (.getfield 193, 3) := by decide +kernel
theorem dX13_command_88 : decode cX13_command 88 = .ok (.ifCond .ne 10, 3) := by decide +kernel
theorem dX13_command_91 : decode cX13_command 91 = .ok (.aload_n 0, 1) := by decide +kernel
theorem dX13_command_92 : decode cX13_command 92 = .ok (.getfield 221, 3) := by decide +kernel
theorem dX13_command_95 : decode cX13_command 95 = .ok (.ifCond .ne 4, 3) := by decide +kernel
theorem dX13_command_98 : decode cX13_command 98 = .ok (.return_, 1) := by decide +kernel
theorem dX13_command_99 : decode cX13_command 99 = .ok (.aload_n 0, 1) := by decide +kernel
theorem dX13_command_100 : decode cX13_command 100 = .ok (.iload_n 1, 1) := by decide +kernel
theorem dX13_command_101 : decode cX13_command 101 = .ok (.iload 4, 2) := by decide +kernel
theorem dX13_command_103 : decode cX13_command 103 = .ok (.iload_n 2, 1) := by decide +kernel
theorem dX13_command_104 : decode cX13_command 104 = .ok (.iload_n 3, 1) := by decide +kernel
theorem dX13_command_105 : decode cX13_command 105 = .ok (.invokevirtual 224, 3) := by decide +kernel
theorem dX13_command_108 : decode cX13_command 108 = .ok (.istore 5, 2) := by decide +kernel
theorem dX13_command_110 : decode cX13_command 110 = .ok (.return_, 1) := by decide +kernel
theorem dX13_commands_0 : decode cX13_commands 0 = .ok (.aload_n 0, 1) := by decide +kernel
theorem dX13_commands_1 : decode cX13_commands 1 = .ok (.iconst 0, 1) := by decide +kernel
theorem dX13_commands_2 : decode cX13_commands 2 = .ok (.putfield 187, 3) := by decide +kernel
theorem dX13_commands_5 : decode cX13_commands 5 = .ok (.aload_n 0, 1) := by decide +kernel
theorem dX13_commands_6 : decode cX13_commands 6 = .ok (.iconst 0, 1) := by decide +kernel
theorem dX13_commands_7 : decode cX13_commands 7 = .ok (.putfield 193, 3) := by decide +kernel
theorem dX13_commands_10 : decode cX13_commands 10 = .ok (.iconst 1, 1) := by decide +kernel
theorem dX13_commands_11 : decode cX13_commands 11 = .ok (.istore_n 1, 1) := by decide +kernel
theorem dX13_commands_12 : decode cX13_commands 12 = .ok (.aload_n 0, 1) := by decide +kernel
theorem dX13_commands_13 : decode cX13_commands 13 = .ok (.invokevirtual 228, 3) := by decide +kernel
theorem dX13_commands_16 : decode cX13_commands 16 = .ok (.aload_n 0, 1) := by decide +kernel
theorem dX13_commands_17 : decode cX13_commands 17 = .ok (.getfield 193, 3) := by decide +kernel
theorem dX13_commands_20 : decode cX13_commands 20 = .ok (.ifCond .ne 44, 3) := by decide +kernel
theorem dX13_commands_23 : decode cX13_commands 23 = .ok (.aload_n 0, 1) := by decide +kernel
theorem dX13_commands_24 : decode cX13_commands 24 = .ok (.getfield 47, 3) := by decide +kernel
theorem dX13_commands_27 : decode cX13_commands 27 = .ok (.ifCond .ne 37, 3) := by decide +kernel
theorem dX13_commands_30 : decode cX13_commands 30 = .ok (.aload_n 0, 1) := by decide +kernel
theorem dX13_commands_31 : decode cX13_commands 31 = .ok (.getfield 187, 3) := by decide +kernel
theorem dX13_commands_34 : decode cX13_commands 34 = .ok (.aload_n 0, 1) := by decide +kernel
theorem dX13_commands_35 : decode cX13_commands 35 = .ok (.getfield 190, 3) := by decide +kernel
theorem dX13_commands_38 : decode cX13_commands 38 = .ok (.if_icmp .ge 26, 3) := by decide +kernel
theorem dX13_commands_41 : decode cX13_commands 41 = .ok (.aload_n 0, 1) := by decide +kernel
theorem dX13_commands_42 : decode cX13_commands 42 = .ok (.bipush 59, 2) := by decide +kernel
theorem dX13_commands_44 : decode cX13_commands 44 = .ok (.invokevirtual 200, 3) := by decide +kernel
theorem dX13_commands_47 : decode cX13_commands 47 = .ok (.aload_n 0, 1) := by decide +kernel
theorem dX13_commands_48 : decode cX13_commands 48 = .ok (.getfield 193, 3) := by decide +kernel
theorem dX13_commands_51 : decode cX13_commands 51 = .ok (.ifCond .ne 7, 3) := by decide +kernel
theorem dX13_commands_54 : decode cX13_commands 54 = .ok (.aload_n 0, 1) := by decide +kernel
theorem dX13_commands_55 : decode cX13_commands 55 = .ok (.invokevirtual 228, 3) := by decide +kernel
theorem dX13_commands_58 : decode cX13_commands 58 = .ok (.iinc 1 1, 3) := by decide +kernel
theorem dX13_commands_61 : decode cX13_commands 61 = .ok (.goto (-45), 3) := by decide +kernel
theorem dX13_commands_64 : decode cX13_commands 64 = .ok (.iload_n 1, 1) := by decide +kernel
theorem dX13_commands_65 : decode cX13_commands 65 = .ok (.ireturn, 1) := by decide +kernel
theorem dX13_runScript_0 : decode cX13_runScript 0 = .ok (.aload_n 0, 1) := by decide +kernel
theorem dX13_runScript_1 : decode cX13_runScript 1 = .ok (.invokevirtual 68, 3) := by decide +kernel
theorem dX13_runScript_4 : decode cX13_runScript 4 = .ok (.aload_n 0, 1) := by decide +kernel
theorem dX13_runScript_5 : decode cX13_runScript 5 = .ok (.aload_n 0, 1) := by decide +kernel
theorem dX13_runScript_6 : decode cX13_runScript 6 = .ok (.getfield 184, 3) := by decide +kernel
theorem dX13_runScript_9 : decode cX13_runScript 9 = .ok (.putfield 190, 3) := by decide +kernel
theorem dX13_runScript_12 : decode cX13_runScript 12 = .ok (.aload_n 0, 1) := by decide +kernel
theorem dX13_runScript_13 : decode cX13_runScript 13 = .ok (.iconst 0, 1) := by decide +kernel
theorem dX13_runScript_14 : decode cX13_runScript 14 = .ok (.putfield 184, 3) := by decide +kernel
theorem dX13_runScript_17 : decode cX13_runScript 17 = .ok (.aload_n 0, 1) := by decide +kernel
theorem dX13_runScript_18 : decode cX13_runScript 18 = .ok (.iconst 0, 1) := by decide +kernel
theorem dX13_runScript_19 : decode cX13_runScript 19 = .ok (.putfield 221, 3) := by decide +kernel
theorem dX13_runScript_22 : decode cX13_runScript 22 = .ok (.aload_n 0, 1) := by decide +kernel
theorem dX13_runScript_23 : decode cX13_runScript 23 = .ok (.invokevirtual 231, 3) := by decide +kernel
theorem dX13_runScript_26 : decode cX13_runScript 26 = .ok (.istore_n 1, 1) := by decide +kernel
theorem dX13_runScript_27 : decode cX13_runScript 27 = .ok (.aload_n 0, 1) := by decide +kernel
theorem dX13_runScript_28 : decode cX13_runScript 28 = .ok (.getfield 193, 3) := by decide +kernel
theorem dX13_runScript_31 : decode cX13_runScript 31 = .ok (.ifCond .eq 17, 3) := by decide +kernel
theorem dX13_runScript_34 : decode cX13_runScript 34 = .ok (.aload_n 0, 1) := by decide +kernel
theorem dX13_runScript_35 : decode cX13_runScript 35 = .ok (.aload_n 0, 1) := by decide +kernel
theorem dX13_runScript_36 : decode cX13_runScript 36 = .ok (.getfield 187, 3) := by decide +kernel
theorem dX13_runScript_39 : decode cX13_runScript 39 = .ok (.putfield 7, 3) := by decide +kernel
theorem dX13_runScript_42 : decode cX13_runScript 42 = .ok (.aload_n 0, 1) := by decide +kernel
theorem dX13_runScript_43 : decode cX13_runScript 43 = .ok (.iconst 1, 1) := by decide +kernel
