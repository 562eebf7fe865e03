theorem dX13_runScript_44 : decode cX13_runScript 44 = .ok (.invokevirtual 61, 3) := by decide +kernel
theorem dX13_runScript_47 : decode cX13_runScript 47 = .ok (.ireturn, 1) := by decide +kernel
theorem dX13_runScript_48 : decode cX13_runScript 48 = .ok (.aload_n 0, 1) := by decide +kernel
theorem dX13_runScript_49 : decode cX13_runScript 49 = .ok (.iconst 1, 1) := by decide +kernel
theorem dX13_runScript_50 : decode cX13_runScript 50 = .ok (.putfield 221, 3) := by decide +kernel
theorem dX13_runScript_53 : decode cX13_runScript 53 = .ok (.aload_n 0, 1) := by decide +kernel
theorem dX13_runScript_54 : decode cX13_runScript 54 = .ok (.invokevirtual 231, 3) := by decide +kernel
theorem dX13_runScript_57 : decode cX13_runScript 57 = .ok (.istore_n 1, 1) := by decide +kernel
theorem dX13_runScript_58 : decode cX13_runScript 58 = .ok (.aload_n 0, 1) := by decide +kernel
theorem dX13_runScript_59 : decode cX13_runScript 59 = .ok (.getfield 47, 3) := by decide +kernel
theorem dX13_runScript_62 : decode cX13_runScript 62 = .ok (.ifCond .eq 15, 3) := by decide +kernel
theorem dX13_runScript_65 : decode cX13_runScript 65 = .ok (.aload_n 0, 1) := by decide +kernel
theorem dX13_runScript_66 : decode cX13_runScript 66 = .ok (.iload_n 1, 1) := by decide +kernel
theorem dX13_runScript_67 : decode cX13_runScript 67 = .ok (.iconst 1, 1) := by decide +kernel
theorem dX13_runScript_68 : decode cX13_runScript 68 = .ok (.isub, 1) := by decide +kernel
theorem dX13_runScript_69 : decode cX13_runScript 69 = .ok (.putfield 13, 3) := by decide +kernel
theorem dX13_runScript_72 : decode cX13_runScript 72 = .ok (.aload_n 0, 1) := by decide +kernel
theorem dX13_runScript_73 : decode cX13_runScript 73 = .ok (.iconst 2, 1) := by decide +kernel
theorem dX13_runScript_74 : decode cX13_runScript 74 = .ok (.putfield 47, 3) := by decide +kernel
theorem dX13_runScript_77 : decode cX13_runScript 77 = .ok (.aload_n 0, 1) := by decide +kernel
theorem dX13_runScript_78 : decode cX13_runScript 78 = .ok (.iload_n 1, 1) := by decide +kernel
theorem dX13_runScript_79 : decode cX13_runScript 79 = .ok (.invokevirtual 75, 3) := by decide +kernel
theorem dX13_runScript_82 : decode cX13_runScript 82 = .ok (.ireturn, 1) := by decide +kernel
theorem dX13_errorPosition_0 : decode cX13_errorPosition 0 = .ok (.aload_n 0, 1) := by decide +kernel
theorem dX13_errorPosition_1 : decode cX13_errorPosition 1 = .ok (.aload_n 0, 1) := by decide +kernel
theorem dX13_errorPosition_2 : decode cX13_errorPosition 2 = .ok (.getfield 7, 3) := by decide +kernel
theorem dX13_errorPosition_5 : decode cX13_errorPosition 5 = .ok (.ifCond .ge 7, 3) := by decide +kernel
theorem dX13_errorPosition_8 : decode cX13_errorPosition 8 = .ok (.iconst 1, 1) := by decide +kernel
theorem dX13_errorPosition_9 : decode cX13_errorPosition 9 = .ok (.goto 4, 3) := by decide +kernel
theorem dX13_errorPosition_12 : decode cX13_errorPosition 12 = .ok (.iconst 0, 1) := by decide +kernel
theorem dX13_errorPosition_13 : decode cX13_errorPosition 13 = .ok (.putfield 47, 3) := by decide +kernel
theorem dX13_errorPosition_16 : decode cX13_errorPosition 16 = .ok (.aload_n 0, 1) := by decide +kernel
theorem dX13_errorPosition_17 : decode cX13_errorPosition 17 = .ok (.getfield 47, 3) := by decide +kernel
theorem dX13_errorPosition_20 : decode cX13_errorPosition 20 = .ok (.ifCond .ne 10, 3) := by decide +kernel
theorem dX13_errorPosition_23 : decode cX13_errorPosition 23 = .ok (.aload_n 0, 1) := by decide +kernel
theorem dX13_errorPosition_24 : decode cX13_errorPosition 24 = .ok (.getfield 7, 3) := by decide +kernel
theorem dX13_errorPosition_27 : decode cX13_errorPosition 27 = .ok (.goto 4, 3) := by decide +kernel
theorem dX13_errorPosition_30 : decode cX13_errorPosition 30 = .ok (.iconst 0, 1) := by decide +kernel
theorem dX13_errorPosition_31 : decode cX13_errorPosition 31 = .ok (.ireturn, 1) := by decide +kernel
theorem dX13_failedCommand_0 : decode cX13_failedCommand 0 = .ok (.aload_n 0, 1) := by decide +kernel
theorem dX13_failedCommand_1 : decode cX13_failedCommand 1 = .ok (.aload_n 0, 1) := by decide +kernel
theorem dX13_failedCommand_2 : decode cX13_failedCommand 2 = .ok (.getfield 13, 3) := by decide +kernel
theorem dX13_failedCommand_5 : decode cX13_failedCommand 5 = .ok (.ifCond .ge 7, 3) := by decide +kernel
theorem dX13_failedCommand_8 : decode cX13_failedCommand 8 = .ok (.iconst 1, 1) := by decide +kernel
theorem dX13_failedCommand_9 : decode cX13_failedCommand 9 = .ok (.goto 4, 3) := by decide +kernel
theorem dX13_failedCommand_12 : decode cX13_failedCommand 12 = .ok (.iconst 0, 1) := by decide +kernel
theorem dX13_failedCommand_13 : decode cX13_failedCommand 13 = .ok (.putfield 47, 3) := by decide +kernel
theorem dX13_failedCommand_16 : decode cX13_failedCommand 16 = .ok (.aload_n 0, 1) := by decide +kernel
theorem dX13_failedCommand_17 : decode cX13_failedCommand 17 = .ok (.getfield 47, 3) := by decide +kernel
theorem dX13_failedCommand_20 : decode cX13_failedCommand 20 = .ok (.ifCond .ne 10, 3) := by decide +kernel
theorem dX13_failedCommand_23 : decode cX13_failedCommand 23 = .ok (.aload_n 0, 1) := by decide +kernel
theorem dX13_failedCommand_24 : decode cX13_failedCommand 24 = .ok (.getfield 13, 3) := by decide +kernel
theorem dX13_failedCommand_27 : decode cX13_failedCommand 27 = .ok (.goto 4, 3) := by decide +kernel
theorem dX13_failedCommand_30 : decode cX13_failedCommand 30 = .ok (.iconst 0, 1) := by decide +kernel
theorem dX13_failedCommand_31 : decode cX13_failedCommand 31 = .ok (.ireturn, 1) := by decide +kernel
theorem dX13_undo_0 : decode cX13_undo 0 = .ok (.aload_n 0, 1) := by decide +kernel
theorem dX13_undo_1 : decode cX13_undo 1 = .ok (.aload_n 0, 1) := by decide +kernel
theorem dX13_undo_2 : decode cX13_undo 2 = .ok (.getfield 54, 3) := by decide +kernel
theorem dX13_undo_5 : decode cX13_undo 5 = .ok (.ifCond .ne 7, 3) := by decide +kernel
theorem dX13_undo_8 : decode cX13_undo 8 = .ok (.iconst 1, 1) := by decide +kernel
theorem dX13_undo_9 : decode cX13_undo 9 = .ok (.goto 4, 3) := by decide +kernel
theorem dX13_undo_12 : decode cX13_undo 12 = .ok (.iconst 0, 1) := by decide +kernel
theorem dX13_undo_13 : decode cX13_undo 13 = .ok (.putfield 47, 3) := by decide +kernel
theorem dX13_undo_16 : decode cX13_undo 16 = .ok (.aload_n 0, 1) := by decide +kernel
theorem dX13_undo_17 : decode cX13_undo 17 = .ok (.getfield 47, 3) := by decide +kernel
theorem dX13_undo_20 : decode cX13_undo 20 = .ok (.ifCond .eq 5, 3) := by decide +kernel
theorem dX13_undo_23 : decode cX13_undo 23 = .ok (.iconst 0, 1) := by decide +kernel
theorem dX13_undo_24 : decode cX13_undo 24 = .ok (.ireturn, 1) := by decide +kernel
theorem dX13_undo_25 : decode cX13_undo 25 = .ok (.aload_n 0, 1) := by decide +kernel
theorem dX13_undo_26 : decode cX13_undo 26 = .ok (.dup, 1) := by decide +kernel
theorem dX13_undo_27 : decode cX13_undo 27 = .ok (.getfield 54, 3) := by decide +kernel
theorem dX13_undo_30 : decode cX13_undo 30 = .ok (.iconst 1, 1) := by decide +kernel
theorem dX13_undo_31 : decode cX13_undo 31 = .ok (.isub, 1) := by decide +kernel
theorem dX13_undo_32 : decode cX13_undo 32 = .ok (.putfield 54, 3) := by decide +kernel
theorem dX13_undo_35 : decode cX13_undo 35 = .ok (.iconst 0, 1) := by decide +kernel
theorem dX13_undo_36 : decode cX13_undo 36 = .ok (.istore_n 1, 1) := by decide +kernel
theorem dX13_undo_37 : decode cX13_undo 37 = .ok (.iload_n 1, 1) := by decide +kernel
theorem dX13_undo_38 : decode cX13_undo 38 = .ok (.sipush 410, 3) := by decide +kernel
theorem dX13_undo_41 : decode cX13_undo 41 = .ok (.if_icmp .ge 30, 3) := by decide +kernel
theorem dX13_undo_44 : decode cX13_undo 44 = .ok (.aload_n 0, 1) := by decide +kernel
theorem dX13_undo_45 : decode cX13_undo 45 = .ok (.getfield 16, 3) := by decide +kernel
theorem dX13_undo_48 : decode cX13_undo 48 = .ok (.iload_n 1, 1) := by decide +kernel
theorem dX13_undo_49 : decode cX13_undo 49 = .ok (.aload_n 0, 1) := by decide +kernel
theorem dX13_undo_50 : decode cX13_undo 50 = .ok (.getfield 26, 3) := by decide +kernel
theorem dX13_undo_53 : decode cX13_undo 53 = .ok (.aload_n 0, 1) := by decide +kernel
theorem dX13_undo_54 : decode cX13_undo 54 = .ok (.getfield 54, 3) := by decide +kernel
theorem dX13_undo_57 : decode cX13_undo 57 = .ok (.sipush 410, 3) := by decide +kernel
theorem dX13_undo_60 : decode cX13_undo 60 = .ok (.imul, 1) := by decide +kernel
theorem dX13_undo_61 : decode cX13_undo 61 = .ok (.iload_n 1, 1) := by decide +kernel
theorem dX13_undo_62 : decode cX13_undo 62 = .ok (.iadd, 1) := by decide +kernel
theorem dX13_undo_63 : decode cX13_undo 63 = .ok (.iaload, 1) := by decide +kernel
theorem dX13_undo_64 : decode cX13_undo 64 = .ok (.iastore, 1) := by decide +kernel
theorem dX13_undo_65 : decode cX13_undo 65 = .ok (.iinc 1 1, 3) := by decide +kernel
theorem dX13_undo_68 : decode cX13_undo 68 = .ok (.goto (-31), 3) := by decide +kernel
theorem dX13_undo_71 : decode cX13_undo 71 = .ok (.aload_n 0, 1) := by decide +kernel
theorem dX13_undo_72 : decode cX13_undo 72 = .ok (.getfield 54, 3) := by decide +kernel
theorem dX13_undo_75 : decode cX13_undo 75 = .ok (.ireturn, 1) := by decide +kernel
theorem dX13_save_0 : decode cX13_save 0 = .ok (.aload_n 0, 1) := by decide +kernel
theorem dX13_save_1 : decode cX13_save 1 = .ok (.iconst 0, 1) := by decide +kernel
theorem dX13_save_2 : decode cX13_save 2 = .ok (.putfield 47, 3) := by decide +kernel
theorem dX13_save_5 : decode cX13_save 5 = .ok (.aload_n 0, 1) := by decide +kernel
theorem dX13_save_6 : decode cX13_save 6 = .ok (.getfield 23, 3) := by decide +kernel
theorem dX13_save_9 : decode cX13_save 9 = .ok (.aload_n 0, 1) := by decide +kernel
theorem dX13_save_10 : decode cX13_save 10 = .ok (.getfield 16, 3) := by decide +kernel
theorem dX13_save_13 : decode cX13_save 13 = .ok (.invokestatic 50, 3) := by decide +kernel
theorem dX13_save_16 : decode cX13_save 16 = .ok (.aload_n 0, 1) := by decide +kernel
theorem dX13_save_17 : decode cX13_save 17 = .ok (.iconst 1, 1) := by decide +kernel
theorem dX13_save_18 : decode cX13_save 18 = .ok (.putfield 234, 3) := by decide +kernel
theorem dX13_save_21 : decode cX13_save 21 = .ok (.aload_n 0, 1) := by decide +kernel
theorem dX13_save_22 : decode cX13_save 22 = .ok (.getfield 16, 3) := by decide +kernel
theorem dX13_save_25 : decode cX13_save 25 = .ok (.iconst 0, 1) := by decide +kernel
theorem dX13_save_26 : decode cX13_save 26 = .ok (.iaload, 1) := by decide +kernel
theorem dX13_save_27 : decode cX13_save 27 = .ok (.ireturn, 1) := by decide +kernel
theorem dX13_restore_0 : decode cX13_restore 0 = .ok (.aload_n 0, 1) := by decide +kernel
theorem dX13_restore_1 : decode cX13_restore 1 = .ok (.aload_n 0, 1) := by decide +kernel
theorem dX13_restore_2 : decode cX13_restore 2 = .ok (.getfield 234, 3) := by decide +kernel
theorem dX13_restore_5 : decode cX13_restore 5 = .ok (.ifCond .eq 7, 3) := by decide +kernel
theorem dX13_restore_8 : decode cX13_restore 8 = .ok (.iconst 0, 1) := by decide +kernel
theorem dX13_restore_9 : decode cX13_restore 9 = .ok (.goto 4, 3) := by decide +kernel
theorem dX13_restore_12 : decode cX13_restore 12 = .ok (.iconst 1, 1) := by decide +kernel
theorem dX13_restore_13 : decode cX13_restore 13 = .ok (.putfield 47, 3) := by decide +kernel
theorem dX13_restore_16 : decode cX13_restore 16 = .ok (.aload_n 0, 1) := by decide +kernel
theorem dX13_restore_17 : decode cX13_restore 17 = .ok (.getfield 47, 3) := by decide +kernel
theorem dX13_restore_20 : decode cX13_restore 20 = .ok (.ifCond .eq 5, 3) := by decide +kernel
theorem dX13_restore_23 : decode cX13_restore 23 = .ok (.iconst 0, 1) := by decide +kernel
theorem dX13_restore_24 : decode cX13_restore 24 = .ok (.ireturn, 1) := by decide +kernel
theorem dX13_restore_25 : decode cX13_restore 25 = .ok (.aload_n 0, 1) := by decide +kernel
theorem dX13_restore_26 : decode cX13_restore 26 = .ok (.getfield 16, 3) := by decide +kernel
theorem dX13_restore_29 : decode cX13_restore 29 = .ok (.aload_n 0, 1) := by decide +kernel
theorem dX13_restore_30 : decode cX13_restore 30 = .ok (.getfield 23, 3) := by decide +kernel
theorem dX13_restore_33 : decode cX13_restore 33 = .ok (.invokestatic 50, 3) := by decide +kernel
theorem dX13_restore_36 : decode cX13_restore 36 = .ok (.aload_n 0, 1) := by decide +kernel
theorem dX13_restore_37 : decode cX13_restore 37 = .ok (.iconst 0, 1) := by decide +kernel
theorem dX13_restore_38 : decode cX13_restore 38 = .ok (.putfield 54, 3) := by decide +kernel
theorem dX13_restore_41 : decode cX13_restore 41 = .ok (.aload_n 0, 1) := by decide +kernel
theorem dX13_restore_42 : decode cX13_restore 42 = .ok (.getfield 16, 3) := by decide +kernel
theorem dX13_restore_45 : decode cX13_restore 45 = .ok (.iconst 0, 1) := by decide +kernel
theorem dX13_restore_46 : decode cX13_restore 46 = .ok (.iaload, 1) := by decide +kernel
theorem dX13_restore_47 : decode cX13_restore 47 = .ok (.ireturn, 1) := by decide +kernel
theorem dJx00060_init_a7421_0 : decode cJx00060_init_a7421 0 = .ok (.aload_n 0, 1) := by decide +kernel
theorem dJx00060_init_a7421_1 : decode cJx00060_init_a7421 1 = .ok (.aload_n 1, 1) := by decide +kernel
theorem dJx00060_init_a7421_2 : decode cJx00060_init_a7421 2 = .ok (.invokespecial 7, 3) := by decide +kernel
theorem dJx00060_init_a7421_5 : decode cJx00060_init_a7421 5 = .ok (.return_, 1) := by decide +kernel
theorem dJx29ce0_ordinal_8abf5_0 : decode cJx29ce0_ordinal_8abf5 0 = .ok (.aload_n 0, 1) := by decide +kernel
theorem dJx29ce0_ordinal_8abf5_1 : decode cJx29ce0_ordinal_8abf5 1 = .ok (.getfield 7, 3) := by decide +kernel
theorem dJx29ce0_ordinal_8abf5_4 : decode cJx29ce0_ordinal_8abf5 4 = .ok (.ireturn, 1) := by decide +kernel
theorem dJ9_max_7cf53_0 : decode cJ9_max_7cf53 0 = .ok (.iload_n 0, 1) := by decide +kernel
theorem dJ9_max_7cf53_1 : decode cJ9_max_7cf53 1 = .ok (.iload_n 1, 1) := by decide +kernel
theorem dJ9_max_7cf53_2 : decode cJ9_max_7cf53 2 = .ok (.if_icmp .lt 7, 3) := by decide +kernel
theorem dJ9_max_7cf53_5 : decode cJ9_max_7cf53 5 = .ok (.iload_n 0, 1) := by decide +kernel
theorem dJ9_max_7cf53_6 : decode cJ9_max_7cf53 6 = .ok (.goto 4, 3) := by decide +kernel
theorem dJ9_max_7cf53_9 : decode cJ9_max_7cf53 9 = .ok (.iload_n 1, 1) := by decide +kernel
theorem dJ9_max_7cf53_10 : decode cJ9_max_7cf53 10 = .ok (.ireturn, 1) := by decide +kernel
theorem dJ9_min_7cf53_0 : decode cJ9_min_7cf53 0 = .ok (.iload_n 0, 1) := by decide +kernel
theorem dJ9_min_7cf53_1 : decode cJ9_min_7cf53 1 = .ok (.iload_n 1, 1) := by decide +kernel
theorem dJ9_min_7cf53_2 : decode cJ9_min_7cf53 2 = .ok (.if_icmp .gt 7, 3) := by decide +kernel
theorem dJ9_min_7cf53_5 : decode cJ9_min_7cf53 5 = .ok (.iload_n 0, 1) := by decide +kernel
theorem dJ9_min_7cf53_6 : decode cJ9_min_7cf53 6 = .ok (.goto 4, 3) := by decide +kernel
theorem dJ9_min_7cf53_9 : decode cJ9_min_7cf53 9 = .ok (.iload_n 1, 1) := by decide +kernel
theorem dJ9_min_7cf53_10 : decode cJ9_min_7cf53 10 = .ok (.ireturn, 1) := by decide +kernel
theorem dJ0_length_8abf5_0 : decode cJ0_length_8abf5 0 = .ok (.aload_n 0, 1) := by decide +kernel
theorem dJ0_length_8abf5_1 : decode cJ0_length_8abf5 1 = .ok (.getfield 9, 3) := by decide +kernel
theorem dJ0_length_8abf5_4 : decode cJ0_length_8abf5 4 = .ok (.arraylength, 1) := by decide +kernel
theorem dJ0_length_8abf5_5 : decode cJ0_length_8abf5 5 = .ok (.aload_n 0, 1) := by decide +kernel
theorem dJ0_length_8abf5_6 : decode cJ0_length_8abf5 6 = .ok (.invokevirtual 335, 3) := by decide +kernel
theorem dJ0_length_8abf5_9 : decode cJ0_length_8abf5 9 = .ok (.ishr, 1) := by decide +kernel
theorem dJ0_length_8abf5_10 : decode cJ0_length_8abf5 10 = .ok (.ireturn, 1) := by decide +kernel
theorem dJ0_charAt_5068e_0 : decode cJ0_charAt_5068e 0 = .ok (.aload_n 0, 1) := by decide +kernel
theorem dJ0_charAt_5068e_1 : decode cJ0_charAt_5068e 1 = .ok (.invokevirtual 492, 3) := by decide +kernel
theorem dJ0_charAt_5068e_4 : decode cJ0_charAt_5068e 4 = .ok (.ifCond .eq 12, 3) := by decide +kernel
theorem dJ0_charAt_5068e_7 : decode cJ0_charAt_5068e 7 = .ok (.aload_n 0, 1) := by decide +kernel
theorem dJ0_charAt_5068e_8 : decode cJ0_charAt_5068e 8 = .ok (.getfield 9, 3) := by decide +kernel
theorem dJ0_charAt_5068e_11 : decode cJ0_charAt_5068e 11 = .ok (.iload_n 1, 1) := by decide +kernel
theorem dJ0_charAt_5068e_12 : decode cJ0_charAt_5068e 12 = .ok (.invokestatic 495, 3) := by decide +kernel
theorem dJ0_charAt_5068e_15 : decode cJ0_charAt_5068e 15 = .ok (.ireturn, 1) := by decide +kernel
theorem dJ0_charAt_5068e_16 : decode cJ0_charAt_5068e 16 = .ok (.aload_n 0, 1) := by decide +kernel
theorem dJ0_charAt_5068e_17 : decode cJ0_charAt_5068e 17 = .ok (.getfield 9, 3) := by decide +kernel
theorem dJ0_charAt_5068e_20 : decode cJ0_charAt_5068e 20 = .ok (.iload_n 1, 1) := by decide +kernel
theorem dJ0_charAt_5068e_21 : decode cJ0_charAt_5068e 21 = .ok (.invokestatic 498, 3) := by decide +kernel
theorem dJ0_charAt_5068e_24 : decode cJ0_charAt_5068e 24 = .ok (.ireturn, 1) := by decide +kernel
theorem dJ0_coder_7d493_0 : decode cJ0_coder_7d493 0 = .ok (.getstatic 38, 3) := by decide +kernel
theorem dJ0_coder_7d493_3 : decode cJ0_coder_7d493 3 = .ok (.ifCond .eq 10, 3) := by decide +kernel
theorem dJ0_coder_7d493_6 : decode cJ0_coder_7d493 6 = .ok (.aload_n 0, 1) := by decide +kernel
theorem dJ0_coder_7d493_7 : decode cJ0_coder_7d493 7 = .ok (.getfield 15, 3) := by decide +kernel
theorem dJ0_coder_7d493_10 : decode cJ0_coder_7d493 10 = .ok (.goto 4, 3) := by decide +kernel
theorem dJ0_coder_7d493_13 : decode cJ0_coder_7d493 13 = .ok (.iconst 1, 1) := by decide +kernel
theorem dJ0_coder_7d493_14 : decode cJ0_coder_7d493 14 = .ok (.ireturn, 1) := by decide +kernel
theorem dJ0_isLatin1_aae02_0 : decode cJ0_isLatin1_aae02 0 = .ok (.getstatic 38, 3) := by decide +kernel
theorem dJ0_isLatin1_aae02_3 : decode cJ0_isLatin1_aae02 3 = .ok (.ifCond .eq 14, 3) := by decide +kernel
theorem dJ0_isLatin1_aae02_6 : decode cJ0_isLatin1_aae02 6 = .ok (.aload_n 0, 1) := by decide +kernel
theorem dJ0_isLatin1_aae02_7 : decode cJ0_isLatin1_aae02 7 = .ok (.getfield 15, 3) := by decide +kernel
theorem dJ0_isLatin1_aae02_10 : decode cJ0_isLatin1_aae02 10 = .ok (.ifCond .ne 7, 3) := by decide +kernel
theorem dJ0_isLatin1_aae02_13 : decode cJ0_isLatin1_aae02 13 = .ok (.iconst 1, 1) := by decide +kernel
theorem dJ0_isLatin1_aae02_14 : decode cJ0_isLatin1_aae02 14 = .ok (.goto 4, 3) := by decide +kernel
theorem dJ0_isLatin1_aae02_17 : decode cJ0_isLatin1_aae02 17 = .ok (.iconst 0, 1) := by decide +kernel
theorem dJ0_isLatin1_aae02_18 : decode cJ0_isLatin1_aae02 18 = .ok (.ireturn, 1) := by decide +kernel
theorem dJ0_checkIndex_df160_0 : decode cJ0_checkIndex_df160 0 = .ok (.iload_n 0, 1) := by decide +kernel
theorem dJ0_checkIndex_df160_1 : decode cJ0_checkIndex_df160 1 = .ok (.iload_n 1, 1) := by decide +kernel
theorem dJ0_checkIndex_df160_2 : decode cJ0_checkIndex_df160 2 = .ok (.getstatic 1053, 3) := by decide +kernel
theorem dJ0_checkIndex_df160_5 : decode cJ0_checkIndex_df160 5 = .ok (.invokestatic 1059, 3) := by decide +kernel
theorem dJ0_checkIndex_df160_8 : decode cJ0_checkIndex_df160 8 = .ok (.pop, 1) := by decide +kernel
theorem dJ0_checkIndex_df160_9 : decode cJ0_checkIndex_df160 9 = .ok (.return_, 1) := by decide +kernel
theorem dJ1_charAt_3b067_0 : decode cJ1_charAt_3b067 0 = .ok (.iload_n 1, 1) := by decide +kernel
theorem dJ1_charAt_3b067_1 : decode cJ1_charAt_3b067 1 = .ok (.aload_n 0, 1) := by decide +kernel
theorem dJ1_charAt_3b067_2 : decode cJ1_charAt_3b067 2 = .ok (.arraylength, 1) := by decide +kernel
theorem dJ1_charAt_3b067_3 : decode cJ1_charAt_3b067 3 = .ok (.invokestatic 9, 3) := by decide +kernel
theorem dJ1_charAt_3b067_6 : decode cJ1_charAt_3b067 6 = .ok (.aload_n 0, 1) := by decide +kernel
theorem dJ1_charAt_3b067_7 : decode cJ1_charAt_3b067 7 = .ok (.iload_n 1, 1) := by decide +kernel
theorem dJ1_charAt_3b067_8 : decode cJ1_charAt_3b067 8 = .ok (.baload, 1) := by decide +kernel
theorem dJ1_charAt_3b067_9 : decode cJ1_charAt_3b067 9 = .ok (.sipush 255, 3) := by decide +kernel
theorem dJ1_charAt_3b067_12 : decode cJ1_charAt_3b067 12 = .ok (.iand, 1) := by decide +kernel
theorem dJ1_charAt_3b067_13 : decode cJ1_charAt_3b067 13 = .ok (.i2c, 1) := by decide +kernel
theorem dJ1_charAt_3b067_14 : decode cJ1_charAt_3b067 14 = .ok (.ireturn, 1) := by decide +kernel
theorem dJ2_getChar_3b067_0 : decode cJ2_getChar_3b067 0 = .ok (.getstatic 44, 3) := by decide +kernel
theorem dJ2_getChar_3b067_3 : decode cJ2_getChar_3b067 3 = .ok (.ifCond .ne 25, 3) := by decide +kernel
theorem dJ2_getChar_3b067_6 : decode cJ2_getChar_3b067 6 = .ok (.iload_n 1, 1) := by decide +kernel
theorem dJ2_getChar_3b067_7 : decode cJ2_getChar_3b067 7 = .ok (.ifCond .lt 11, 3) := by decide +kernel
theorem dJ2_getChar_3b067_10 : decode cJ2_getChar_3b067 10 = .ok (.iload_n 1, 1) := by decide +kernel
theorem dJ2_getChar_3b067_11 : decode cJ2_getChar_3b067 11 = .ok (.aload_n 0, 1) := by decide +kernel
theorem dJ2_getChar_3b067_12 : decode cJ2_getChar_3b067 12 = .ok (.invokestatic 48, 3) := by decide +kernel
theorem dJ2_getChar_3b067_15 : decode cJ2_getChar_3b067 15 = .ok (.if_icmp .lt 13, 3) := by decide +kernel
theorem dJ2_getChar_3b067_18 : decode cJ2_getChar_3b067 18 = .ok (.new 52, 3) := by decide +kernel
theorem dJ2_getChar_3b067_21 : decode cJ2_getChar_3b067 21 = .ok (.dup, 1) := by decide +kernel
theorem dJ2_getChar_3b067_22 : decode cJ2_getChar_3b067 22 = .ok (.ldc 54, 2) := by decide +kernel
theorem dJ2_getChar_3b067_24 : decode cJ2_getChar_3b067 24 = .ok (.invokespecial 56, 3) := by decide +kernel
theorem dJ2_getChar_3b067_27 : decode cJ2_getChar_3b067 27 = .ok (.athrow, 1) := by decide +kernel
theorem dJ2_getChar_3b067_28 : decode cJ2_getChar_3b067 28 = .ok (.iload_n 1, 1) := by decide +kernel
theorem dJ2_getChar_3b067_29 : decode cJ2_getChar_3b067 29 = .ok (.iconst 1, 1) := by decide +kernel
theorem dJ2_getChar_3b067_30 : decode cJ2_getChar_3b067 30 = .ok (.ishl, 1) := by decide +kernel
theorem dJ2_getChar_3b067_31 : decode cJ2_getChar_3b067 31 = .ok (.istore_n 1, 1) := by decide +kernel
theorem dJ2_getChar_3b067_32 : decode cJ2_getChar_3b067 32 = .ok (.aload_n 0, 1) := by decide +kernel
theorem dJ2_getChar_3b067_33 : decode cJ2_getChar_3b067 33 = .ok (.iload_n 1, 1) := by decide +kernel
theorem dJ2_getChar_3b067_34 : decode cJ2_getChar_3b067 34 = .ok (.iinc 1 1, 3) := by decide +kernel
theorem dJ2_getChar_3b067_37 : decode cJ2_getChar_3b067 37 = .ok (.baload, 1) := by decide +kernel
theorem dJ2_getChar_3b067_38 : decode cJ2_getChar_3b067 38 = .ok (.sipush 255, 3) := by decide +kernel
theorem dJ2_getChar_3b067_41 : decode cJ2_getChar_3b067 41 = .ok (.iand, 1) := by decide +kernel
theorem dJ2_getChar_3b067_42 : decode cJ2_getChar_3b067 42 = .ok (.getstatic 59, 3) := by decide +kernel
theorem dJ2_getChar_3b067_45 : decode cJ2_getChar_3b067 45 = .ok (.ishl, 1) := by decide +kernel
theorem dJ2_getChar_3b067_46 : decode cJ2_getChar_3b067 46 = .ok (.aload_n 0, 1) := by decide +kernel
theorem dJ2_getChar_3b067_47 : decode cJ2_getChar_3b067 47 = .ok (.iload_n 1, 1) := by decide +kernel
theorem dJ2_getChar_3b067_48 : decode cJ2_getChar_3b067 48 = .ok (.baload, 1) := by decide +kernel
theorem dJ2_getChar_3b067_49 : decode cJ2_getChar_3b067 49 = .ok (.sipush 255, 3) := by decide +kernel
theorem dJ2_getChar_3b067_52 : decode cJ2_getChar_3b067 52 = .ok (.iand, 1) := by decide +kernel
theorem dJ2_getChar_3b067_53 : decode cJ2_getChar_3b067 53 = .ok (.getstatic 63, 3) := by decide +kernel
theorem dJ2_getChar_3b067_56 : decode cJ2_getChar_3b067 56 = .ok (.ishl, 1) := by decide +kernel
theorem dJ2_getChar_3b067_57 : decode cJ2_getChar_3b067 57 = .ok (.ior, 1) := by decide +kernel
theorem dJ2_getChar_3b067_58 : decode cJ2_getChar_3b067 58 = .ok (.i2c, 1) := by decide +kernel
theorem dJ2_getChar_3b067_59 : decode cJ2_getChar_3b067 59 = .ok (.ireturn, 1) := by decide +kernel
theorem dJ2_length_9d52b_0 : decode cJ2_length_9d52b 0 = .ok (.aload_n 0, 1) := by decide +kernel
theorem dJ2_length_9d52b_1 : decode cJ2_length_9d52b 1 = .ok (.arraylength, 1) := by decide +kernel
theorem dJ2_length_9d52b_2 : decode cJ2_length_9d52b 2 = .ok (.iconst 1, 1) := by decide +kernel
theorem dJ2_length_9d52b_3 : decode cJ2_length_9d52b 3 = .ok (.ishr, 1) := by decide +kernel
theorem dJ2_length_9d52b_4 : decode cJ2_length_9d52b 4 = .ok (.ireturn, 1) := by decide +kernel
theorem dJ2_charAt_3b067_0 : decode cJ2_charAt_3b067 0 = .ok (.iload_n 1, 1) := by decide +kernel
theorem dJ2_charAt_3b067_1 : decode cJ2_charAt_3b067 1 = .ok (.aload_n 0, 1) := by decide +kernel
theorem dJ2_charAt_3b067_2 : decode cJ2_charAt_3b067 2 = .ok (.invokestatic 67, 3) := by decide +kernel
theorem dJ2_charAt_3b067_5 : decode cJ2_charAt_3b067 5 = .ok (.aload_n 0, 1) := by decide +kernel
theorem dJ2_charAt_3b067_6 : decode cJ2_charAt_3b067 6 = .ok (.iload_n 1, 1) := by decide +kernel
theorem dJ2_charAt_3b067_7 : decode cJ2_charAt_3b067 7 = .ok (.invokestatic 71, 3) := by decide +kernel
theorem dJ2_charAt_3b067_10 : decode cJ2_charAt_3b067 10 = .ok (.ireturn, 1) := by decide +kernel
theorem dJ2_checkIndex_2214a_0 : decode cJ2_checkIndex_2214a 0 = .ok (.iload_n 0, 1) := by decide +kernel
theorem dJ2_checkIndex_2214a_1 : decode cJ2_checkIndex_2214a 1 = .ok (.aload_n 1, 1) := by decide +kernel
theorem dJ2_checkIndex_2214a_2 : decode cJ2_checkIndex_2214a 2 = .ok (.invokestatic 48, 3) := by decide +kernel
theorem dJ2_checkIndex_2214a_5 : decode cJ2_checkIndex_2214a 5 = .ok (.invokestatic 414, 3) := by decide +kernel
theorem dJ2_checkIndex_2214a_8 : decode cJ2_checkIndex_2214a 8 = .ok (.return_, 1) := by decide +kernel
theorem dJ3_checkIndex_8e157_0 : decode cJ3_checkIndex_8e157 0 = .ok (.iload_n 0, 1) := by decide +kernel
theorem dJ3_checkIndex_8e157_1 : decode cJ3_checkIndex_8e157 1 = .ok (.ifCond .lt 8, 3) := by decide +kernel
theorem dJ3_checkIndex_8e157_4 : decode cJ3_checkIndex_8e157 4 = .ok (.iload_n 0, 1) := by decide +kernel
theorem dJ3_checkIndex_8e157_5 : decode cJ3_checkIndex_8e157 5 = .ok (.iload_n 1, 1) := by decide +kernel
theorem dJ3_checkIndex_8e157_6 : decode cJ3_checkIndex_8e157 6 = .ok (.if_icmp .lt 10, 3) := by decide +kernel
theorem dJ3_checkIndex_8e157_9 : decode cJ3_checkIndex_8e157 9 = .ok (.aload_n 2, 1) := by decide +kernel
theorem dJ3_checkIndex_8e157_10 : decode cJ3_checkIndex_8e157 10 = .ok (.iload_n 0, 1) := by decide +kernel
theorem dJ3_checkIndex_8e157_11 : decode cJ3_checkIndex_8e157 11 = .ok (.iload_n 1, 1) := by decide +kernel
theorem dJ3_checkIndex_8e157_12 : decode cJ3_checkIndex_8e157 12 = .ok (.invokestatic 95, 3) := by decide +kernel
theorem dJ3_checkIndex_8e157_15 : decode cJ3_checkIndex_8e157 15 = .ok (.athrow, 1) := by decide +kernel
theorem dJ3_checkIndex_8e157_16 : decode cJ3_checkIndex_8e157 16 = .ok (.iload_n 0, 1) := by decide +kernel
theorem dJ3_checkIndex_8e157_17 : decode cJ3_checkIndex_8e157 17 = .ok (.ireturn, 1) := by decide +kernel
theorem dL_pass_0 : decode cL_pass 0 = .ok (.aload 4, 2) := by decide +kernel
theorem dL_pass_2 : decode cL_pass 2 = .ok (.iconst 0, 1) := by decide +kernel
theorem dL_pass_3 : decode cL_pass 3 = .ok (.aload_n 0, 1) := by decide +kernel
theorem dL_pass_4 : decode cL_pass 4 = .ok (.iload_n 1, 1) := by decide +kernel
theorem dL_pass_5 : decode cL_pass 5 = .ok (.iload_n 2, 1) := by decide +kernel
theorem dL_pass_6 : decode cL_pass 6 = .ok (.iload_n 3, 1) := by decide +kernel
theorem dL_pass_7 : decode cL_pass 7 = .ok (.invokevirtual 7, 3) := by decide +kernel
theorem dL_pass_10 : decode cL_pass 10 = .ok (.i2l, 1) := by decide +kernel
theorem dL_pass_11 : decode cL_pass 11 = .ok (.lastore, 1) := by decide +kernel
theorem dL_pass_12 : decode cL_pass 12 = .ok (.goto 11, 3) := by decide +kernel
theorem dL_pass_15 : decode cL_pass 15 = .ok (.astore 5, 2) := by decide +kernel
theorem dL_pass_17 : decode cL_pass 17 = .ok (.iconst 1, 1) := by decide +kernel
theorem dL_pass_18 : decode cL_pass 18 = .ok (.ireturn, 1) := by decide +kernel
theorem dL_pass_19 : decode cL_pass 19 = .ok (.astore 5, 2) := by decide +kernel
theorem dL_pass_21 : decode cL_pass 21 = .ok (.iconst 2, 1) := by decide +kernel
theorem dL_pass_22 : decode cL_pass 22 = .ok (.ireturn, 1) := by decide +kernel
theorem dL_pass_23 : decode cL_pass 23 = .ok (.iconst 0, 1) := by decide +kernel
theorem dL_pass_24 : decode cL_pass 24 = .ok (.ireturn, 1) := by decide +kernel
theorem dL_insertRest_0 : decode cL_insertRest 0 = .ok (.aload_n 3, 1) := by decide +kernel
theorem dL_insertRest_1 : decode cL_insertRest 1 = .ok (.iconst 0, 1) := by decide +kernel
theorem dL_insertRest_2 : decode cL_insertRest 2 = .ok (.aload_n 0, 1) := by decide +kernel
theorem dL_insertRest_3 : decode cL_insertRest 3 = .ok (.iload_n 1, 1) := by decide +kernel
theorem dL_insertRest_4 : decode cL_insertRest 4 = .ok (.iload_n 2, 1) := by decide +kernel
theorem dL_insertRest_5 : decode cL_insertRest 5 = .ok (.invokevirtual 17, 3) := by decide +kernel
theorem dL_insertRest_8 : decode cL_insertRest 8 = .ok (.i2l, 1) := by decide +kernel
theorem dL_insertRest_9 : decode cL_insertRest 9 = .ok (.lastore, 1) := by decide +kernel
theorem dL_insertRest_10 : decode cL_insertRest 10 = .ok (.goto 15, 3) := by decide +kernel
theorem dL_insertRest_13 : decode cL_insertRest 13 = .ok (.astore 4, 2) := by decide +kernel
theorem dL_insertRest_15 : decode cL_insertRest 15 = .ok (.iconst 1, 1) := by decide +kernel
theorem dL_insertRest_16 : decode cL_insertRest 16 = .ok (.ireturn, 1) := by decide +kernel
theorem dL_insertRest_17 : decode cL_insertRest 17 = .ok (.astore 4, 2) := by decide +kernel
theorem dL_insertRest_19 : decode cL_insertRest 19 = .ok (.iconst 2, 1) := by decide +kernel
theorem dL_insertRest_20 : decode cL_insertRest 20 = .ok (.ireturn, 1) := by decide +kernel
theorem dL_insertRest_21 : decode cL_insertRest 21 = .ok (.astore 4, 2) := by decide +kernel
theorem dL_insertRest_23 : decode cL_insertRest 23 = .ok (.iconst 3, 1) := by decide +kernel
theorem dL_insertRest_24 : decode cL_insertRest 24 = .ok (.ireturn, 1) := by decide +kernel
theorem dL_insertRest_25 : decode cL_insertRest 25 = .ok (.iconst 0, 1) := by decide +kernel
theorem dL_insertRest_26 : decode cL_insertRest 26 = .ok (.ireturn, 1) := by decide +kernel
theorem dL_remove_0 : decode cL_remove 0 = .ok (.aload_n 3, 1) := by decide +kernel
theorem dL_remove_1 : decode cL_remove 1 = .ok (.iconst 0, 1) := by decide +kernel
theorem dL_remove_2 : decode cL_remove 2 = .ok (.aload_n 0, 1) := by decide +kernel
theorem dL_remove_3 : decode cL_remove 3 = .ok (.iload_n 1, 1) := by decide +kernel
theorem dL_remove_4 : decode cL_remove 4 = .ok (.iload_n 2, 1) := by decide +kernel
theorem dL_remove_5 : decode cL_remove 5 = .ok (.invokevirtual 23, 3) := by decide +kernel
theorem dL_remove_8 : decode cL_remove 8 = .ok (.i2l, 1) := by decide +kernel
theorem dL_remove_9 : decode cL_remove 9 = .ok (.lastore, 1) := by decide +kernel
theorem dL_remove_10 : decode cL_remove 10 = .ok (.goto 7, 3) := by decide +kernel
theorem dL_remove_13 : decode cL_remove 13 = .ok (.astore 4, 2) := by decide +kernel
theorem dL_remove_15 : decode cL_remove 15 = .ok (.iconst 1, 1) := by decide +kernel
theorem dL_remove_16 : decode cL_remove 16 = .ok (.ireturn, 1) := by decide +kernel
theorem dL_remove_17 : decode cL_remove 17 = .ok (.iconst 0, 1) := by decide +kernel
theorem dL_remove_18 : decode cL_remove 18 = .ok (.ireturn, 1) := by decide +kernel
theorem dL_mute_0 : decode cL_mute 0 = .ok (.aload_n 3, 1) := by decide +kernel
theorem dL_mute_1 : decode cL_mute 1 = .ok (.iconst 0, 1) := by decide +kernel
theorem dL_mute_2 : decode cL_mute 2 = .ok (.aload_n 0, 1) := by decide +kernel
theorem dL_mute_3 : decode cL_mute 3 = .ok (.iload_n 1, 1) := by decide +kernel
theorem dL_mute_4 : decode cL_mute 4 = .ok (.iload_n 2, 1) := by decide +kernel
theorem dL_mute_5 : decode cL_mute 5 = .ok (.invokevirtual 26, 3) := by decide +kernel
theorem dL_mute_8 : decode cL_mute 8 = .ok (.i2l, 1) := by decide +kernel
theorem dL_mute_9 : decode cL_mute 9 = .ok (.lastore, 1) := by decide +kernel
theorem dL_mute_10 : decode cL_mute 10 = .ok (.goto 7, 3) := by decide +kernel
theorem dL_mute_13 : decode cL_mute 13 = .ok (.astore 4, 2) := by decide +kernel
theorem dL_mute_15 : decode cL_mute 15 = .ok (.iconst 1, 1) := by decide +kernel
theorem dL_mute_16 : decode cL_mute 16 = .ok (.ireturn, 1) := by decide +kernel
theorem dL_mute_17 : decode cL_mute 17 = .ok (.iconst 0, 1) := by decide +kernel
theorem dL_mute_18 : decode cL_mute 18 = .ok (.ireturn, 1) := by decide +kernel
theorem dL_modulate_0 : decode cL_modulate 0 = .ok (.aload 4, 2) := by decide +kernel
theorem dL_modulate_2 : decode cL_modulate 2 = .ok (.iconst 0, 1) := by decide +kernel
theorem dL_modulate_3 : decode cL_modulate 3 = .ok (.aload_n 0, 1) := by decide +kernel
theorem dL_modulate_4 : decode cL_modulate 4 = .ok (.iload_n 1, 1) := by decide +kernel
theorem dL_modulate_5 : decode cL_modulate 5 = .ok (.iload_n 2, 1) := by decide +kernel
theorem dL_modulate_6 : decode cL_modulate 6 = .ok (.iload_n 3, 1) := by decide +kernel
theorem dL_modulate_7 : decode cL_modulate 7 = .ok (.invokevirtual 29, 3) := by decide +kernel
theorem dL_modulate_10 : decode cL_modulate 10 = .ok (.i2l, 1) := by decide +kernel
theorem dL_modulate_11 : decode cL_modulate 11 = .ok (.lastore, 1) := by decide +kernel
theorem dL_modulate_12 : decode cL_modulate 12 = .ok (.goto 11, 3) := by decide +kernel
theorem dL_modulate_15 : decode cL_modulate 15 = .ok (.astore 5, 2) := by decide +kernel
theorem dL_modulate_17 : decode cL_modulate 17 = .ok (.iconst 1, 1) := by decide +kernel
theorem dL_modulate_18 : decode cL_modulate 18 = .ok (.ireturn, 1) := by decide +kernel
theorem dL_modulate_19 : decode cL_modulate 19 = .ok (.astore 5, 2) := by decide +kernel
theorem dL_modulate_21 : decode cL_modulate 21 = .ok (.iconst 2, 1) := by decide +kernel
theorem dL_modulate_22 : decode cL_modulate 22 = .ok (.ireturn, 1) := by decide +kernel
theorem dL_modulate_23 : decode cL_modulate 23 = .ok (.iconst 0, 1) := by decide +kernel
theorem dL_modulate_24 : decode cL_modulate 24 = .ok (.ireturn, 1) := by decide +kernel
theorem dL_reverse_0 : decode cL_reverse 0 = .ok (.aload_n 3, 1) := by decide +kernel
theorem dL_reverse_1 : decode cL_reverse 1 = .ok (.iconst 0, 1) := by decide +kernel
theorem dL_reverse_2 : decode cL_reverse 2 = .ok (.aload_n 0, 1) := by decide +kernel
theorem dL_reverse_3 : decode cL_reverse 3 = .ok (.iload_n 1, 1) := by decide +kernel
theorem dL_reverse_4 : decode cL_reverse 4 = .ok (.iload_n 2, 1) := by decide +kernel
theorem dL_reverse_5 : decode cL_reverse 5 = .ok (.invokevirtual 32, 3) := by decide +kernel
theorem dL_reverse_8 : decode cL_reverse 8 = .ok (.ifCond .eq 7, 3) := by decide +kernel
theorem dL_reverse_11 : decode cL_reverse 11 = .ok (.lconst 1, 1) := by decide +kernel
theorem dL_reverse_12 : decode cL_reverse 12 = .ok (.goto 4, 3) := by decide +kernel
theorem dL_reverse_15 : decode cL_reverse 15 = .ok (.lconst 0, 1) := by decide +kernel
theorem dL_reverse_16 : decode cL_reverse 16 = .ok (.lastore, 1) := by decide +kernel
theorem dL_reverse_17 : decode cL_reverse 17 = .ok (.goto 7, 3) := by decide +kernel
theorem dL_reverse_20 : decode cL_reverse 20 = .ok (.astore 4, 2) := by decide +kernel
theorem dL_reverse_22 : decode cL_reverse 22 = .ok (.iconst 1, 1) := by decide +kernel
theorem dL_reverse_23 : decode cL_reverse 23 = .ok (.ireturn, 1) := by decide +kernel
theorem dL_reverse_24 : decode cL_reverse 24 = .ok (.iconst 0, 1) := by decide +kernel
theorem dL_reverse_25 : decode cL_reverse 25 = .ok (.ireturn, 1) := by decide +kernel
theorem dL_repeat_0 : decode cL_repeat 0 = .ok (.aload 4, 2) := by decide +kernel
theorem dL_repeat_2 : decode cL_repeat 2 = .ok (.iconst 0, 1) := by decide +kernel
theorem dL_repeat_3 : decode cL_repeat 3 = .ok (.aload_n 0, 1) := by decide +kernel
theorem dL_repeat_4 : decode cL_repeat 4 = .ok (.iload_n 1, 1) := by decide +kernel
theorem dL_repeat_5 : decode cL_repeat 5 = .ok (.iload_n 2, 1) := by decide +kernel
theorem dL_repeat_6 : decode cL_repeat 6 = .ok (.iload_n 3, 1) := by decide +kernel
theorem dL_repeat_7 : decode cL_repeat 7 = .ok (.invokevirtual 36, 3) := by decide +kernel
theorem dL_repeat_10 : decode cL_repeat 10 = .ok (.i2l, 1) := by decide +kernel
theorem dL_repeat_11 : decode cL_repeat 11 = .ok (.lastore, 1) := by decide +kernel
theorem dL_repeat_12 : decode cL_repeat 12 = .ok (.goto 15, 3) := by decide +kernel
theorem dL_repeat_15 : decode cL_repeat 15 = .ok (.astore 5, 2) := by decide +kernel
theorem dL_repeat_17 : decode cL_repeat 17 = .ok (.iconst 1, 1) := by decide +kernel
theorem dL_repeat_18 : decode cL_repeat 18 = .ok (.ireturn, 1) := by decide +kernel
theorem dL_repeat_19 : decode cL_repeat 19 = .ok (.astore 5, 2) := by decide +kernel
theorem dL_repeat_21 : decode cL_repeat 21 = .ok (.iconst 2, 1) := by decide +kernel
theorem dL_repeat_22 : decode cL_repeat 22 = .ok (.ireturn, 1) := by decide +kernel
theorem dL_repeat_23 : decode cL_repeat 23 = .ok (.astore 5, 2) := by decide +kernel
theorem dL_repeat_25 : decode cL_repeat 25 = .ok (.iconst 3, 1) := by decide +kernel
theorem dL_repeat_26 : decode cL_repeat 26 = .ok (.ireturn, 1) := by decide +kernel
theorem dL_repeat_27 : decode cL_repeat 27 = .ok (.iconst 0, 1) := by decide +kernel
theorem dL_repeat_28 : decode cL_repeat 28 = .ok (.ireturn, 1) := by decide +kernel
theorem dL_copy_0 : decode cL_copy 0 = .ok (.aload_n 3, 1) := by decide +kernel
theorem dL_copy_1 : decode cL_copy 1 = .ok (.iconst 0, 1) := by decide +kernel
theorem dL_copy_2 : decode cL_copy 2 = .ok (.aload_n 0, 1) := by decide +kernel
theorem dL_copy_3 : decode cL_copy 3 = .ok (.iload_n 1, 1) := by decide +kernel
theorem dL_copy_4 : decode cL_copy 4 = .ok (.iload_n 2, 1) := by decide +kernel
theorem dL_copy_5 : decode cL_copy 5 = .ok (.invokevirtual 39, 3) := by decide +kernel
theorem dL_copy_8 : decode cL_copy 8 = .ok (.i2l, 1) := by decide +kernel
theorem dL_copy_9 : decode cL_copy 9 = .ok (.lastore, 1) := by decide +kernel
theorem dL_copy_10 : decode cL_copy 10 = .ok (.goto 7, 3) := by decide +kernel
theorem dL_copy_13 : decode cL_copy 13 = .ok (.astore 4, 2) := by decide +kernel
theorem dL_copy_15 : decode cL_copy 15 = .ok (.iconst 1, 1) := by decide +kernel
theorem dL_copy_16 : decode cL_copy 16 = .ok (.ireturn, 1) := by decide +kernel
theorem dL_copy_17 : decode cL_copy 17 = .ok (.iconst 0, 1) := by decide +kernel
theorem dL_copy_18 : decode cL_copy 18 = .ok (.ireturn, 1) := by decide +kernel
theorem dL_paste_0 : decode cL_paste 0 = .ok (.aload_n 2, 1) := by decide +kernel
theorem dL_paste_1 : decode cL_paste 1 = .ok (.iconst 0, 1) := by decide +kernel
theorem dL_paste_2 : decode cL_paste 2 = .ok (.aload_n 0, 1) := by decide +kernel
theorem dL_paste_3 : decode cL_paste 3 = .ok (.iload_n 1, 1) := by decide +kernel
theorem dL_paste_4 : decode cL_paste 4 = .ok (.invokevirtual 42, 3) := by decide +kernel
theorem dL_paste_7 : decode cL_paste 7 = .ok (.i2l, 1) := by decide +kernel
theorem dL_paste_8 : decode cL_paste 8 = .ok (.lastore, 1) := by decide +kernel
theorem dL_paste_9 : decode cL_paste 9 = .ok (.goto 12, 3) := by decide +kernel
theorem dL_paste_12 : decode cL_paste 12 = .ok (.astore_n 3, 1) := by decide +kernel
theorem dL_paste_13 : decode cL_paste 13 = .ok (.iconst 1, 1) := by decide +kernel
theorem dL_paste_14 : decode cL_paste 14 = .ok (.ireturn, 1) := by decide +kernel
theorem dL_paste_15 : decode cL_paste 15 = .ok (.astore_n 3, 1) := by decide +kernel
theorem dL_paste_16 : decode cL_paste 16 = .ok (.iconst 2, 1) := by decide +kernel
theorem dL_paste_17 : decode cL_paste 17 = .ok (.ireturn, 1) := by decide +kernel
theorem dL_paste_18 : decode cL_paste 18 = .ok (.astore_n 3, 1) := by decide +kernel
theorem dL_paste_19 : decode cL_paste 19 = .ok (.iconst 3, 1) := by decide +kernel
theorem dL_paste_20 : decode cL_paste 20 = .ok (.ireturn, 1) := by decide +kernel
theorem dL_paste_21 : decode cL_paste 21 = .ok (.iconst 0, 1) := by decide +kernel
theorem dL_paste_22 : decode cL_paste 22 = .ok (.ireturn, 1) := by decide +kernel
theorem dL_addMarker_0 : decode cL_addMarker 0 = .ok (.aload_n 2, 1) := by decide +kernel
theorem dL_addMarker_1 : decode cL_addMarker 1 = .ok (.iconst 0, 1) := by decide +kernel
theorem dL_addMarker_2 : decode cL_addMarker 2 = .ok (.aload_n 0, 1) := by decide +kernel
theorem dL_addMarker_3 : decode cL_addMarker 3 = .ok (.iload_n 1, 1) := by decide +kernel
theorem dL_addMarker_4 : decode cL_addMarker 4 = .ok (.invokevirtual 48, 3) := by decide +kernel
theorem dL_addMarker_7 : decode cL_addMarker 7 = .ok (.ifCond .eq 7, 3) := by decide +kernel
theorem dL_addMarker_10 : decode cL_addMarker 10 = .ok (.lconst 1, 1) := by decide +kernel
theorem dL_addMarker_11 : decode cL_addMarker 11 = .ok (.goto 4, 3) := by decide +kernel
theorem dL_addMarker_14 : decode cL_addMarker 14 = .ok (.lconst 0, 1) := by decide +kernel
theorem dL_addMarker_15 : decode cL_addMarker 15 = .ok (.lastore, 1) := by decide +kernel
theorem dL_addMarker_16 : decode cL_addMarker 16 = .ok (.goto 9, 3) := by decide +kernel
theorem dL_addMarker_19 : decode cL_addMarker 19 = .ok (.astore_n 3, 1) := by decide +kernel
theorem dL_addMarker_20 : decode cL_addMarker 20 = .ok (.iconst 1, 1) := by decide +kernel
theorem dL_addMarker_21 : decode cL_addMarker 21 = .ok (.ireturn, 1) := by decide +kernel
theorem dL_addMarker_22 : decode cL_addMarker 22 = .ok (.astore_n 3, 1) := by decide +kernel
theorem dL_addMarker_23 : decode cL_addMarker 23 = .ok (.iconst 2, 1) := by decide +kernel
theorem dL_addMarker_24 : decode cL_addMarker 24 = .ok (.ireturn, 1) := by decide +kernel
theorem dL_addMarker_25 : decode cL_addMarker 25 = .ok (.iconst 0, 1) := by decide +kernel
theorem dL_addMarker_26 : decode cL_addMarker 26 = .ok (.ireturn, 1) := by decide +kernel
theorem dL_levelAt_0 : decode cL_levelAt 0 = .ok (.aload_n 2, 1) := by decide +kernel
theorem dL_levelAt_1 : decode cL_levelAt 1 = .ok (.iconst 0, 1) := by decide +kernel
theorem dL_levelAt_2 : decode cL_levelAt 2 = .ok (.aload_n 0, 1) := by decide +kernel
theorem dL_levelAt_3 : decode cL_levelAt 3 = .ok (.iload_n 1, 1) := by decide +kernel
theorem dL_levelAt_4 : decode cL_levelAt 4 = .ok (.invokevirtual 52, 3) := by decide +kernel
theorem dL_levelAt_7 : decode cL_levelAt 7 = .ok (.i2l, 1) := by decide +kernel
theorem dL_levelAt_8 : decode cL_levelAt 8 = .ok (.lastore, 1) := by decide +kernel
theorem dL_levelAt_9 : decode cL_levelAt 9 = .ok (.goto 6, 3) := by decide +kernel
theorem dL_levelAt_12 : decode cL_levelAt 12 = .ok (.astore_n 3, 1) := by decide +kernel
theorem dL_levelAt_13 : decode cL_levelAt 13 = .ok (.iconst 1, 1) := by decide +kernel
theorem dL_levelAt_14 : decode cL_levelAt 14 = .ok (.ireturn, 1) := by decide +kernel
theorem dL_levelAt_15 : decode cL_levelAt 15 = .ok (.iconst 0, 1) := by decide +kernel
theorem dL_levelAt_16 : decode cL_levelAt 16 = .ok (.ireturn, 1) := by decide +kernel
theorem dL_runStart_0 : decode cL_runStart 0 = .ok (.aload_n 2, 1) := by decide +kernel
theorem dL_runStart_1 : decode cL_runStart 1 = .ok (.iconst 0, 1) := by decide +kernel
theorem dL_runStart_2 : decode cL_runStart 2 = .ok (.aload_n 0, 1) := by decide +kernel
theorem dL_runStart_3 : decode cL_runStart 3 = .ok (.iload_n 1, 1) := by decide +kernel
theorem dL_runStart_4 : decode cL_runStart 4 = .ok (.invokevirtual 55, 3) := by decide +kernel
theorem dL_runStart_7 : decode cL_runStart 7 = .ok (.i2l, 1) := by decide +kernel
theorem dL_runStart_8 : decode cL_runStart 8 = .ok (.lastore, 1) := by decide +kernel
theorem dL_runStart_9 : decode cL_runStart 9 = .ok (.goto 6, 3) := by decide +kernel
theorem dL_runStart_12 : decode cL_runStart 12 = .ok (.astore_n 3, 1) := by decide +kernel
theorem dL_runStart_13 : decode cL_runStart 13 = .ok (.iconst 1, 1) := by decide +kernel
theorem dL_runStart_14 : decode cL_runStart 14 = .ok (.ireturn, 1) := by decide +kernel
theorem dL_runStart_15 : decode cL_runStart 15 = .ok (.iconst 0, 1) := by decide +kernel
theorem dL_runStart_16 : decode cL_runStart 16 = .ok (.ireturn, 1) := by decide +kernel
theorem dL_runLength_0 : decode cL_runLength 0 = .ok (.aload_n 2, 1) := by decide +kernel
theorem dL_runLength_1 : decode cL_runLength 1 = .ok (.iconst 0, 1) := by decide +kernel
theorem dL_runLength_2 : decode cL_runLength 2 = .ok (.aload_n 0, 1) := by decide +kernel
theorem dL_runLength_3 : decode cL_runLength 3 = .ok (.iload_n 1, 1) := by decide +kernel
theorem dL_runLength_4 : decode cL_runLength 4 = .ok (.invokevirtual 58, 3) := by decide +kernel
theorem dL_runLength_7 : decode cL_runLength 7 = .ok (.i2l, 1) := by decide +kernel
theorem dL_runLength_8 : decode cL_runLength 8 = .ok (.lastore, 1) := by decide +kernel
theorem dL_runLength_9 : decode cL_runLength 9 = .ok (.goto 6, 3) := by decide +kernel
theorem dL_runLength_12 : decode cL_runLength 12 = .ok (.astore_n 3, 1) := by decide +kernel
theorem dL_runLength_13 : decode cL_runLength 13 = .ok (.iconst 1, 1) := by decide +kernel
theorem dL_runLength_14 : decode cL_runLength 14 = .ok (.ireturn, 1) := by decide +kernel
theorem dL_runLength_15 : decode cL_runLength 15 = .ok (.iconst 0, 1) := by decide +kernel
theorem dL_runLength_16 : decode cL_runLength 16 = .ok (.ireturn, 1) := by decide +kernel
theorem dL_runLevel_0 : decode cL_runLevel 0 = .ok (.aload_n 2, 1) := by decide +kernel
theorem dL_runLevel_1 : decode cL_runLevel 1 = .ok (.iconst 0, 1) := by decide +kernel
theorem dL_runLevel_2 : decode cL_runLevel 2 = .ok (.aload_n 0, 1) := by decide +kernel
theorem dL_runLevel_3 : decode cL_runLevel 3 = .ok (.iload_n 1, 1) := by decide +kernel
theorem dL_runLevel_4 : decode cL_runLevel 4 = .ok (.invokevirtual 61, 3) := by decide +kernel
theorem dL_runLevel_7 : decode cL_runLevel 7 = .ok (.i2l, 1) := by decide +kernel
theorem dL_runLevel_8 : decode cL_runLevel 8 = .ok (.lastore, 1) := by decide +kernel
theorem dL_runLevel_9 : decode cL_runLevel 9 = .ok (.goto 6, 3) := by decide +kernel
theorem dL_runLevel_12 : decode cL_runLevel 12 = .ok (.astore_n 3, 1) := by decide +kernel
theorem dL_runLevel_13 : decode cL_runLevel 13 = .ok (.iconst 1, 1) := by decide +kernel
theorem dL_runLevel_14 : decode cL_runLevel 14 = .ok (.ireturn, 1) := by decide +kernel
theorem dL_runLevel_15 : decode cL_runLevel 15 = .ok (.iconst 0, 1) := by decide +kernel
theorem dL_runLevel_16 : decode cL_runLevel 16 = .ok (.ireturn, 1) := by decide +kernel
theorem dL_ticksAtLevel_0 : decode cL_ticksAtLevel 0 = .ok (.aload_n 2, 1) := by decide +kernel
theorem dL_ticksAtLevel_1 : decode cL_ticksAtLevel 1 = .ok (.iconst 0, 1) := by decide +kernel
theorem dL_ticksAtLevel_2 : decode cL_ticksAtLevel 2 = .ok (.aload_n 0, 1) := by decide +kernel
theorem dL_ticksAtLevel_3 : decode cL_ticksAtLevel 3 = .ok (.iload_n 1, 1) := by decide +kernel
theorem dL_ticksAtLevel_4 : decode cL_ticksAtLevel 4 = .ok (.invokevirtual 64, 3) := by decide +kernel
theorem dL_ticksAtLevel_7 : decode cL_ticksAtLevel 7 = .ok (.i2l, 1) := by decide +kernel
theorem dL_ticksAtLevel_8 : decode cL_ticksAtLevel 8 = .ok (.lastore, 1) := by decide +kernel
theorem dL_ticksAtLevel_9 : decode cL_ticksAtLevel 9 = .ok (.goto 6, 3) := by decide +kernel
theorem dL_ticksAtLevel_12 : decode cL_ticksAtLevel 12 = .ok (.astore_n 3, 1) := by decide +kernel
theorem dL_ticksAtLevel_13 : decode cL_ticksAtLevel 13 = .ok (.iconst 1, 1) := by decide +kernel
theorem dL_ticksAtLevel_14 : decode cL_ticksAtLevel 14 = .ok (.ireturn, 1) := by decide +kernel
theorem dL_ticksAtLevel_15 : decode cL_ticksAtLevel 15 = .ok (.iconst 0, 1) := by decide +kernel
theorem dL_ticksAtLevel_16 : decode cL_ticksAtLevel 16 = .ok (.ireturn, 1) := by decide +kernel
theorem dL_loudnessIn_0 : decode cL_loudnessIn 0 = .ok (.aload_n 3, 1) := by decide +kernel
theorem dL_loudnessIn_1 : decode cL_loudnessIn 1 = .ok (.iconst 0, 1) := by decide +kernel
theorem dL_loudnessIn_2 : decode cL_loudnessIn 2 = .ok (.aload_n 0, 1) := by decide +kernel
theorem dL_loudnessIn_3 : decode cL_loudnessIn 3 = .ok (.iload_n 1, 1) := by decide +kernel
theorem dL_loudnessIn_4 : decode cL_loudnessIn 4 = .ok (.iload_n 2, 1) := by decide +kernel
theorem dL_loudnessIn_5 : decode cL_loudnessIn 5 = .ok (.invokevirtual 67, 3) := by decide +kernel
theorem dL_loudnessIn_8 : decode cL_loudnessIn 8 = .ok (.i2l, 1) := by decide +kernel
theorem dL_loudnessIn_9 : decode cL_loudnessIn 9 = .ok (.lastore, 1) := by decide +kernel
theorem dL_loudnessIn_10 : decode cL_loudnessIn 10 = .ok (.goto 7, 3) := by decide +kernel
theorem dL_loudnessIn_13 : decode cL_loudnessIn 13 = .ok (.astore 4, 2) := by decide +kernel
theorem dL_loudnessIn_15 : decode cL_loudnessIn 15 = .ok (.iconst 1, 1) := by decide +kernel
theorem dL_loudnessIn_16 : decode cL_loudnessIn 16 = .ok (.ireturn, 1) := by decide +kernel
theorem dL_loudnessIn_17 : decode cL_loudnessIn 17 = .ok (.iconst 0, 1) := by decide +kernel
theorem dL_loudnessIn_18 : decode cL_loudnessIn 18 = .ok (.ireturn, 1) := by decide +kernel
theorem dL_loudnessInByPrefixes_0 : decode cL_loudnessInByPrefixes 0 = .ok (.aload_n 3, 1) := by decide +kernel
theorem dL_loudnessInByPrefixes_1 : decode cL_loudnessInByPrefixes 1 = .ok (.iconst 0, 1) := by decide +kernel
theorem dL_loudnessInByPrefixes_2 : decode cL_loudnessInByPrefixes 2 = .ok (.aload_n 0, 1) := by decide +kernel
theorem dL_loudnessInByPrefixes_3 : decode cL_loudnessInByPrefixes 3 = .ok (.iload_n 1, 1) := by decide +kernel
theorem dL_loudnessInByPrefixes_4 : decode cL_loudnessInByPrefixes 4 = .ok (.iload_n 2, 1) := by decide +kernel
theorem dL_loudnessInByPrefixes_5 : decode cL_loudnessInByPrefixes 5 = .ok (.invokevirtual 70, 3) := by decide +kernel
theorem dL_loudnessInByPrefixes_8 : decode cL_loudnessInByPrefixes 8 = .ok (.i2l, 1) := by decide +kernel
theorem dL_loudnessInByPrefixes_9 : decode cL_loudnessInByPrefixes 9 = .ok (.lastore, 1) := by decide +kernel
theorem dL_loudnessInByPrefixes_10 : decode cL_loudnessInByPrefixes 10 = .ok (.goto 7, 3) := by decide +kernel
theorem dL_loudnessInByPrefixes_13 : decode cL_loudnessInByPrefixes 13 = .ok (.astore 4, 2) := by decide +kernel
theorem dL_loudnessInByPrefixes_15 : decode cL_loudnessInByPrefixes 15 = .ok (.iconst 1, 1) := by decide +kernel
theorem dL_loudnessInByPrefixes_16 : decode cL_loudnessInByPrefixes 16 = .ok (.ireturn, 1) := by decide +kernel
theorem dL_loudnessInByPrefixes_17 : decode cL_loudnessInByPrefixes 17 = .ok (.iconst 0, 1) := by decide +kernel
theorem dL_loudnessInByPrefixes_18 : decode cL_loudnessInByPrefixes 18 = .ok (.ireturn, 1) := by decide +kernel
theorem dL_isSilent_0 : decode cL_isSilent 0 = .ok (.aload_n 3, 1) := by decide +kernel
theorem dL_isSilent_1 : decode cL_isSilent 1 = .ok (.iconst 0, 1) := by decide +kernel
theorem dL_isSilent_2 : decode cL_isSilent 2 = .ok (.aload_n 0, 1) := by decide +kernel
theorem dL_isSilent_3 : decode cL_isSilent 3 = .ok (.iload_n 1, 1) := by decide +kernel
theorem dL_isSilent_4 : decode cL_isSilent 4 = .ok (.iload_n 2, 1) := by decide +kernel
theorem dL_isSilent_5 : decode cL_isSilent 5 = .ok (.invokevirtual 73, 3) := by decide +kernel
theorem dL_isSilent_8 : decode cL_isSilent 8 = .ok (.ifCond .eq 7, 3) := by decide +kernel
theorem dL_isSilent_11 : decode cL_isSilent 11 = .ok (.lconst 1, 1) := by decide +kernel
theorem dL_isSilent_12 : decode cL_isSilent 12 = .ok (.goto 4, 3) := by decide +kernel
theorem dL_isSilent_15 : decode cL_isSilent 15 = .ok (.lconst 0, 1) := by decide +kernel
theorem dL_isSilent_16 : decode cL_isSilent 16 = .ok (.lastore, 1) := by decide +kernel
theorem dL_isSilent_17 : decode cL_isSilent 17 = .ok (.goto 7, 3) := by decide +kernel
theorem dL_isSilent_20 : decode cL_isSilent 20 = .ok (.astore 4, 2) := by decide +kernel
theorem dL_isSilent_22 : decode cL_isSilent 22 = .ok (.iconst 1, 1) := by decide +kernel
theorem dL_isSilent_23 : decode cL_isSilent 23 = .ok (.ireturn, 1) := by decide +kernel
theorem dL_isSilent_24 : decode cL_isSilent 24 = .ok (.iconst 0, 1) := by decide +kernel
theorem dL_isSilent_25 : decode cL_isSilent 25 = .ok (.ireturn, 1) := by decide +kernel
theorem dL_restStartByLength_0 : decode cL_restStartByLength 0 = .ok (.aload_n 2, 1) := by decide +kernel
theorem dL_restStartByLength_1 : decode cL_restStartByLength 1 = .ok (.iconst 0, 1) := by decide +kernel
theorem dL_restStartByLength_2 : decode cL_restStartByLength 2 = .ok (.aload_n 0, 1) := by decide +kernel
theorem dL_restStartByLength_3 : decode cL_restStartByLength 3 = .ok (.iload_n 1, 1) := by decide +kernel
theorem dL_restStartByLength_4 : decode cL_restStartByLength 4 = .ok (.invokevirtual 76, 3) := by decide +kernel
theorem dL_restStartByLength_7 : decode cL_restStartByLength 7 = .ok (.i2l, 1) := by decide +kernel
theorem dL_restStartByLength_8 : decode cL_restStartByLength 8 = .ok (.lastore, 1) := by decide +kernel
theorem dL_restStartByLength_9 : decode cL_restStartByLength 9 = .ok (.goto 6, 3) := by decide +kernel
theorem dL_restStartByLength_12 : decode cL_restStartByLength 12 = .ok (.astore_n 3, 1) := by decide +kernel
theorem dL_restStartByLength_13 : decode cL_restStartByLength 13 = .ok (.iconst 1, 1) := by decide +kernel
theorem dL_restStartByLength_14 : decode cL_restStartByLength 14 = .ok (.ireturn, 1) := by decide +kernel
theorem dL_restStartByLength_15 : decode cL_restStartByLength 15 = .ok (.iconst 0, 1) := by decide +kernel
theorem dL_restStartByLength_16 : decode cL_restStartByLength 16 = .ok (.ireturn, 1) := by decide +kernel
theorem dL_nextChange_0 : decode cL_nextChange 0 = .ok (.aload_n 2, 1) := by decide +kernel
theorem dL_nextChange_1 : decode cL_nextChange 1 = .ok (.iconst 0, 1) := by decide +kernel
theorem dL_nextChange_2 : decode cL_nextChange 2 = .ok (.aload_n 0, 1) := by decide +kernel
theorem dL_nextChange_3 : decode cL_nextChange 3 = .ok (.iload_n 1, 1) := by decide +kernel
theorem dL_nextChange_4 : decode cL_nextChange 4 = .ok (.invokevirtual 79, 3) := by decide +kernel
theorem dL_nextChange_7 : decode cL_nextChange 7 = .ok (.i2l, 1) := by decide +kernel
theorem dL_nextChange_8 : decode cL_nextChange 8 = .ok (.lastore, 1) := by decide +kernel
theorem dL_nextChange_9 : decode cL_nextChange 9 = .ok (.goto 9, 3) := by decide +kernel
theorem dL_nextChange_12 : decode cL_nextChange 12 = .ok (.astore_n 3, 1) := by decide +kernel
theorem dL_nextChange_13 : decode cL_nextChange 13 = .ok (.iconst 1, 1) := by decide +kernel
theorem dL_nextChange_14 : decode cL_nextChange 14 = .ok (.ireturn, 1) := by decide +kernel
theorem dL_nextChange_15 : decode cL_nextChange 15 = .ok (.astore_n 3, 1) := by decide +kernel
theorem dL_nextChange_16 : decode cL_nextChange 16 = .ok (.iconst 2, 1) := by decide +kernel
theorem dL_nextChange_17 : decode cL_nextChange 17 = .ok (.ireturn, 1) := by decide +kernel
theorem dL_nextChange_18 : decode cL_nextChange 18 = .ok (.iconst 0, 1) := by decide +kernel
theorem dL_nextChange_19 : decode cL_nextChange 19 = .ok (.ireturn, 1) := by decide +kernel
theorem dL_findRun_0 : decode cL_findRun 0 = .ok (.aload_n 3, 1) := by decide +kernel
theorem dL_findRun_1 : decode cL_findRun 1 = .ok (.iconst 0, 1) := by decide +kernel
theorem dL_findRun_2 : decode cL_findRun 2 = .ok (.aload_n 0, 1) := by decide +kernel
theorem dL_findRun_3 : decode cL_findRun 3 = .ok (.iload_n 1, 1) := by decide +kernel
theorem dL_findRun_4 : decode cL_findRun 4 = .ok (.iload_n 2, 1) := by decide +kernel
theorem dL_findRun_5 : decode cL_findRun 5 = .ok (.invokevirtual 82, 3) := by decide +kernel
theorem dL_findRun_8 : decode cL_findRun 8 = .ok (.i2l, 1) := by decide +kernel
theorem dL_findRun_9 : decode cL_findRun 9 = .ok (.lastore, 1) := by decide +kernel
theorem dL_findRun_10 : decode cL_findRun 10 = .ok (.goto 11, 3) := by decide +kernel
theorem dL_findRun_13 : decode cL_findRun 13 = .ok (.astore 4, 2) := by decide +kernel
theorem dL_findRun_15 : decode cL_findRun 15 = .ok (.iconst 1, 1) := by decide +kernel
theorem dL_findRun_16 : decode cL_findRun 16 = .ok (.ireturn, 1) := by decide +kernel
theorem dL_findRun_17 : decode cL_findRun 17 = .ok (.astore 4, 2) := by decide +kernel
theorem dL_findRun_19 : decode cL_findRun 19 = .ok (.iconst 2, 1) := by decide +kernel
theorem dL_findRun_20 : decode cL_findRun 20 = .ok (.ireturn, 1) := by decide +kernel
theorem dL_findRun_21 : decode cL_findRun 21 = .ok (.iconst 0, 1) := by decide +kernel
theorem dL_findRun_22 : decode cL_findRun 22 = .ok (.ireturn, 1) := by decide +kernel
theorem dL_quietestWindow_0 : decode cL_quietestWindow 0 = .ok (.aload_n 2, 1) := by decide +kernel
theorem dL_quietestWindow_1 : decode cL_quietestWindow 1 = .ok (.iconst 0, 1) := by decide +kernel
theorem dL_quietestWindow_2 : decode cL_quietestWindow 2 = .ok (.aload_n 0, 1) := by decide +kernel
theorem dL_quietestWindow_3 : decode cL_quietestWindow 3 = .ok (.iload_n 1, 1) := by decide +kernel
theorem dL_quietestWindow_4 : decode cL_quietestWindow 4 = .ok (.invokevirtual 85, 3) := by decide +kernel
theorem dL_quietestWindow_7 : decode cL_quietestWindow 7 = .ok (.i2l, 1) := by decide +kernel
theorem dL_quietestWindow_8 : decode cL_quietestWindow 8 = .ok (.lastore, 1) := by decide +kernel
theorem dL_quietestWindow_9 : decode cL_quietestWindow 9 = .ok (.goto 9, 3) := by decide +kernel
theorem dL_quietestWindow_12 : decode cL_quietestWindow 12 = .ok (.astore_n 3, 1) := by decide +kernel
theorem dL_quietestWindow_13 : decode cL_quietestWindow 13 = .ok (.iconst 1, 1) := by decide +kernel
theorem dL_quietestWindow_14 : decode cL_quietestWindow 14 = .ok (.ireturn, 1) := by decide +kernel
theorem dL_quietestWindow_15 : decode cL_quietestWindow 15 = .ok (.astore_n 3, 1) := by decide +kernel
theorem dL_quietestWindow_16 : decode cL_quietestWindow 16 = .ok (.iconst 2, 1) := by decide +kernel
theorem dL_quietestWindow_17 : decode cL_quietestWindow 17 = .ok (.ireturn, 1) := by decide +kernel
theorem dL_quietestWindow_18 : decode cL_quietestWindow 18 = .ok (.iconst 0, 1) := by decide +kernel
theorem dL_quietestWindow_19 : decode cL_quietestWindow 19 = .ok (.ireturn, 1) := by decide +kernel
theorem dL_quietestWindowByTrial_0 : decode cL_quietestWindowByTrial 0 = .ok (.aload_n 2, 1) := by decide +kernel
theorem dL_quietestWindowByTrial_1 : decode cL_quietestWindowByTrial 1 = .ok (.iconst 0, 1) := by decide +kernel
theorem dL_quietestWindowByTrial_2 : decode cL_quietestWindowByTrial 2 = .ok (.aload_n 0, 1) := by decide +kernel
theorem dL_quietestWindowByTrial_3 : decode cL_quietestWindowByTrial 3 = .ok (.iload_n 1, 1) := by decide +kernel
theorem dL_quietestWindowByTrial_4 : decode cL_quietestWindowByTrial 4 = .ok (.invokevirtual 88, 3) := by decide +kernel
theorem dL_quietestWindowByTrial_7 : decode cL_quietestWindowByTrial 7 = .ok (.i2l, 1) := by decide +kernel
theorem dL_quietestWindowByTrial_8 : decode cL_quietestWindowByTrial 8 = .ok (.lastore, 1) := by decide +kernel
theorem dL_quietestWindowByTrial_9 : decode cL_quietestWindowByTrial 9 = .ok (.goto 9, 3) := by decide +kernel
theorem dL_quietestWindowByTrial_12 : decode cL_quietestWindowByTrial 12 = .ok (.astore_n 3, 1) := by decide +kernel
theorem dL_quietestWindowByTrial_13 : decode cL_quietestWindowByTrial 13 = .ok (.iconst 1, 1) := by decide +kernel
theorem dL_quietestWindowByTrial_14 : decode cL_quietestWindowByTrial 14 = .ok (.ireturn, 1) := by decide +kernel
theorem dL_quietestWindowByTrial_15 : decode cL_quietestWindowByTrial 15 = .ok (.astore_n 3, 1) := by decide +kernel
theorem dL_quietestWindowByTrial_16 : decode cL_quietestWindowByTrial 16 = .ok (.iconst 2, 1) := by decide +kernel
theorem dL_quietestWindowByTrial_17 : decode cL_quietestWindowByTrial 17 = .ok (.ireturn, 1) := by decide +kernel
theorem dL_quietestWindowByTrial_18 : decode cL_quietestWindowByTrial 18 = .ok (.iconst 0, 1) := by decide +kernel
theorem dL_quietestWindowByTrial_19 : decode cL_quietestWindowByTrial 19 = .ok (.ireturn, 1) := by decide +kernel
theorem dL_period_0 : decode cL_period 0 = .ok (.aload_n 1, 1) := by decide +kernel
theorem dL_period_1 : decode cL_period 1 = .ok (.iconst 0, 1) := by decide +kernel
theorem dL_period_2 : decode cL_period 2 = .ok (.aload_n 0, 1) := by decide +kernel
theorem dL_period_3 : decode cL_period 3 = .ok (.invokevirtual 91, 3) := by decide +kernel
theorem dL_period_6 : decode cL_period 6 = .ok (.i2l, 1) := by decide +kernel
theorem dL_period_7 : decode cL_period 7 = .ok (.lastore, 1) := by decide +kernel
theorem dL_period_8 : decode cL_period 8 = .ok (.goto 6, 3) := by decide +kernel
theorem dL_period_11 : decode cL_period 11 = .ok (.astore_n 2, 1) := by decide +kernel
theorem dL_period_12 : decode cL_period 12 = .ok (.iconst 1, 1) := by decide +kernel
theorem dL_period_13 : decode cL_period 13 = .ok (.ireturn, 1) := by decide +kernel
theorem dL_period_14 : decode cL_period 14 = .ok (.iconst 0, 1) := by decide +kernel
theorem dL_period_15 : decode cL_period 15 = .ok (.ireturn, 1) := by decide +kernel
theorem dL_periodByTrial_0 : decode cL_periodByTrial 0 = .ok (.aload_n 1, 1) := by decide +kernel
theorem dL_periodByTrial_1 : decode cL_periodByTrial 1 = .ok (.iconst 0, 1) := by decide +kernel
theorem dL_periodByTrial_2 : decode cL_periodByTrial 2 = .ok (.aload_n 0, 1) := by decide +kernel
theorem dL_periodByTrial_3 : decode cL_periodByTrial 3 = .ok (.invokevirtual 95, 3) := by decide +kernel
theorem dL_periodByTrial_6 : decode cL_periodByTrial 6 = .ok (.i2l, 1) := by decide +kernel
theorem dL_periodByTrial_7 : decode cL_periodByTrial 7 = .ok (.lastore, 1) := by decide +kernel
theorem dL_periodByTrial_8 : decode cL_periodByTrial 8 = .ok (.goto 6, 3) := by decide +kernel
theorem dL_periodByTrial_11 : decode cL_periodByTrial 11 = .ok (.astore_n 2, 1) := by decide +kernel
theorem dL_periodByTrial_12 : decode cL_periodByTrial 12 = .ok (.iconst 1, 1) := by decide +kernel
theorem dL_periodByTrial_13 : decode cL_periodByTrial 13 = .ok (.ireturn, 1) := by decide +kernel
theorem dL_periodByTrial_14 : decode cL_periodByTrial 14 = .ok (.iconst 0, 1) := by decide +kernel
theorem dL_periodByTrial_15 : decode cL_periodByTrial 15 = .ok (.ireturn, 1) := by decide +kernel
theorem dL_markerTime_0 : decode cL_markerTime 0 = .ok (.aload_n 2, 1) := by decide +kernel
theorem dL_markerTime_1 : decode cL_markerTime 1 = .ok (.iconst 0, 1) := by decide +kernel
theorem dL_markerTime_2 : decode cL_markerTime 2 = .ok (.aload_n 0, 1) := by decide +kernel
theorem dL_markerTime_3 : decode cL_markerTime 3 = .ok (.iload_n 1, 1) := by decide +kernel
theorem dL_markerTime_4 : decode cL_markerTime 4 = .ok (.invokevirtual 98, 3) := by decide +kernel
theorem dL_markerTime_7 : decode cL_markerTime 7 = .ok (.i2l, 1) := by decide +kernel
theorem dL_markerTime_8 : decode cL_markerTime 8 = .ok (.lastore, 1) := by decide +kernel
theorem dL_markerTime_9 : decode cL_markerTime 9 = .ok (.goto 6, 3) := by decide +kernel
theorem dL_markerTime_12 : decode cL_markerTime 12 = .ok (.astore_n 3, 1) := by decide +kernel
theorem dL_markerTime_13 : decode cL_markerTime 13 = .ok (.iconst 1, 1) := by decide +kernel
theorem dL_markerTime_14 : decode cL_markerTime 14 = .ok (.ireturn, 1) := by decide +kernel
theorem dL_markerTime_15 : decode cL_markerTime 15 = .ok (.iconst 0, 1) := by decide +kernel
theorem dL_markerTime_16 : decode cL_markerTime 16 = .ok (.ireturn, 1) := by decide +kernel
theorem dL_barLength_0 : decode cL_barLength 0 = .ok (.aload_n 2, 1) := by decide +kernel
theorem dL_barLength_1 : decode cL_barLength 1 = .ok (.iconst 0, 1) := by decide +kernel
theorem dL_barLength_2 : decode cL_barLength 2 = .ok (.aload_n 0, 1) := by decide +kernel
theorem dL_barLength_3 : decode cL_barLength 3 = .ok (.iload_n 1, 1) := by decide +kernel
theorem dL_barLength_4 : decode cL_barLength 4 = .ok (.invokevirtual 101, 3) := by decide +kernel
theorem dL_barLength_7 : decode cL_barLength 7 = .ok (.i2l, 1) := by decide +kernel
theorem dL_barLength_8 : decode cL_barLength 8 = .ok (.lastore, 1) := by decide +kernel
theorem dL_barLength_9 : decode cL_barLength 9 = .ok (.goto 6, 3) := by decide +kernel
theorem dL_barLength_12 : decode cL_barLength 12 = .ok (.astore_n 3, 1) := by decide +kernel
theorem dL_barLength_13 : decode cL_barLength 13 = .ok (.iconst 1, 1) := by decide +kernel
theorem dL_barLength_14 : decode cL_barLength 14 = .ok (.ireturn, 1) := by decide +kernel
theorem dL_barLength_15 : decode cL_barLength 15 = .ok (.iconst 0, 1) := by decide +kernel
theorem dL_barLength_16 : decode cL_barLength 16 = .ok (.ireturn, 1) := by decide +kernel
theorem dL_barLoudness_0 : decode cL_barLoudness 0 = .ok (.aload_n 2, 1) := by decide +kernel
theorem dL_barLoudness_1 : decode cL_barLoudness 1 = .ok (.iconst 0, 1) := by decide +kernel
theorem dL_barLoudness_2 : decode cL_barLoudness 2 = .ok (.aload_n 0, 1) := by decide +kernel
theorem dL_barLoudness_3 : decode cL_barLoudness 3 = .ok (.iload_n 1, 1) := by decide +kernel
theorem dL_barLoudness_4 : decode cL_barLoudness 4 = .ok (.invokevirtual 104, 3) := by decide +kernel
theorem dL_barLoudness_7 : decode cL_barLoudness 7 = .ok (.i2l, 1) := by decide +kernel
theorem dL_barLoudness_8 : decode cL_barLoudness 8 = .ok (.lastore, 1) := by decide +kernel
theorem dL_barLoudness_9 : decode cL_barLoudness 9 = .ok (.goto 6, 3) := by decide +kernel
theorem dL_barLoudness_12 : decode cL_barLoudness 12 = .ok (.astore_n 3, 1) := by decide +kernel
theorem dL_barLoudness_13 : decode cL_barLoudness 13 = .ok (.iconst 1, 1) := by decide +kernel
theorem dL_barLoudness_14 : decode cL_barLoudness 14 = .ok (.ireturn, 1) := by decide +kernel
theorem dL_barLoudness_15 : decode cL_barLoudness 15 = .ok (.iconst 0, 1) := by decide +kernel
theorem dL_barLoudness_16 : decode cL_barLoudness 16 = .ok (.ireturn, 1) := by decide +kernel
theorem dL_areBarsEqual_0 : decode cL_areBarsEqual 0 = .ok (.aload_n 3, 1) := by decide +kernel
theorem dL_areBarsEqual_1 : decode cL_areBarsEqual 1 = .ok (.iconst 0, 1) := by decide +kernel
theorem dL_areBarsEqual_2 : decode cL_areBarsEqual 2 = .ok (.aload_n 0, 1) := by decide +kernel
theorem dL_areBarsEqual_3 : decode cL_areBarsEqual 3 = .ok (.iload_n 1, 1) := by decide +kernel
theorem dL_areBarsEqual_4 : decode cL_areBarsEqual 4 = .ok (.iload_n 2, 1) := by decide +kernel
theorem dL_areBarsEqual_5 : decode cL_areBarsEqual 5 = .ok (.invokevirtual 107, 3) := by decide +kernel
theorem dL_areBarsEqual_8 : decode cL_areBarsEqual 8 = .ok (.ifCond .eq 7, 3) := by decide +kernel
theorem dL_areBarsEqual_11 : decode cL_areBarsEqual 11 = .ok (.lconst 1, 1) := by decide +kernel
theorem dL_areBarsEqual_12 : decode cL_areBarsEqual 12 = .ok (.goto 4, 3) := by decide +kernel
theorem dL_areBarsEqual_15 : decode cL_areBarsEqual 15 = .ok (.lconst 0, 1) := by decide +kernel
theorem dL_areBarsEqual_16 : decode cL_areBarsEqual 16 = .ok (.lastore, 1) := by decide +kernel
theorem dL_areBarsEqual_17 : decode cL_areBarsEqual 17 = .ok (.goto 7, 3) := by decide +kernel
theorem dL_areBarsEqual_20 : decode cL_areBarsEqual 20 = .ok (.astore 4, 2) := by decide +kernel
theorem dL_areBarsEqual_22 : decode cL_areBarsEqual 22 = .ok (.iconst 1, 1) := by decide +kernel
theorem dL_areBarsEqual_23 : decode cL_areBarsEqual 23 = .ok (.ireturn, 1) := by decide +kernel
theorem dL_areBarsEqual_24 : decode cL_areBarsEqual 24 = .ok (.iconst 0, 1) := by decide +kernel
theorem dL_areBarsEqual_25 : decode cL_areBarsEqual 25 = .ok (.ireturn, 1) := by decide +kernel
theorem dL_meanLevel_0 : decode cL_meanLevel 0 = .ok (.aload_n 1, 1) := by decide +kernel
theorem dL_meanLevel_1 : decode cL_meanLevel 1 = .ok (.iconst 0, 1) := by decide +kernel
theorem dL_meanLevel_2 : decode cL_meanLevel 2 = .ok (.aload_n 0, 1) := by decide +kernel
theorem dL_meanLevel_3 : decode cL_meanLevel 3 = .ok (.invokevirtual 110, 3) := by decide +kernel
theorem dL_meanLevel_6 : decode cL_meanLevel 6 = .ok (.dastore, 1) := by decide +kernel
theorem dL_meanLevel_7 : decode cL_meanLevel 7 = .ok (.goto 6, 3) := by decide +kernel
theorem dL_meanLevel_10 : decode cL_meanLevel 10 = .ok (.astore_n 2, 1) := by decide +kernel
theorem dL_meanLevel_11 : decode cL_meanLevel 11 = .ok (.iconst 1, 1) := by decide +kernel
theorem dL_meanLevel_12 : decode cL_meanLevel 12 = .ok (.ireturn, 1) := by decide +kernel
theorem dL_meanLevel_13 : decode cL_meanLevel 13 = .ok (.iconst 0, 1) := by decide +kernel
theorem dL_meanLevel_14 : decode cL_meanLevel 14 = .ok (.ireturn, 1) := by decide +kernel
theorem dL_restShare_0 : decode cL_restShare 0 = .ok (.aload_n 1, 1) := by decide +kernel
theorem dL_restShare_1 : decode cL_restShare 1 = .ok (.iconst 0, 1) := by decide +kernel
theorem dL_restShare_2 : decode cL_restShare 2 = .ok (.aload_n 0, 1) := by decide +kernel
theorem dL_restShare_3 : decode cL_restShare 3 = .ok (.invokevirtual 116, 3) := by decide +kernel
theorem dL_restShare_6 : decode cL_restShare 6 = .ok (.f2d, 1) := by decide +kernel
theorem dL_restShare_7 : decode cL_restShare 7 = .ok (.dastore, 1) := by decide +kernel
theorem dL_restShare_8 : decode cL_restShare 8 = .ok (.goto 6, 3) := by decide +kernel
theorem dL_restShare_11 : decode cL_restShare 11 = .ok (.astore_n 2, 1) := by decide +kernel
theorem dL_restShare_12 : decode cL_restShare 12 = .ok (.iconst 1, 1) := by decide +kernel
theorem dL_restShare_13 : decode cL_restShare 13 = .ok (.ireturn, 1) := by decide +kernel
theorem dL_restShare_14 : decode cL_restShare 14 = .ok (.iconst 0, 1) := by decide +kernel
theorem dL_restShare_15 : decode cL_restShare 15 = .ok (.ireturn, 1) := by decide +kernel
theorem dL_outputAt_0 : decode cL_outputAt 0 = .ok (.aload_n 2, 1) := by decide +kernel
theorem dL_outputAt_1 : decode cL_outputAt 1 = .ok (.iconst 0, 1) := by decide +kernel
theorem dL_outputAt_2 : decode cL_outputAt 2 = .ok (.aload_n 0, 1) := by decide +kernel
theorem dL_outputAt_3 : decode cL_outputAt 3 = .ok (.iload_n 1, 1) := by decide +kernel
theorem dL_outputAt_4 : decode cL_outputAt 4 = .ok (.invokevirtual 120, 3) := by decide +kernel
theorem dL_outputAt_7 : decode cL_outputAt 7 = .ok (.i2l, 1) := by decide +kernel
theorem dL_outputAt_8 : decode cL_outputAt 8 = .ok (.lastore, 1) := by decide +kernel
theorem dL_outputAt_9 : decode cL_outputAt 9 = .ok (.goto 6, 3) := by decide +kernel
theorem dL_outputAt_12 : decode cL_outputAt 12 = .ok (.astore_n 3, 1) := by decide +kernel
theorem dL_outputAt_13 : decode cL_outputAt 13 = .ok (.iconst 1, 1) := by decide +kernel
theorem dL_outputAt_14 : decode cL_outputAt 14 = .ok (.ireturn, 1) := by decide +kernel
theorem dL_outputAt_15 : decode cL_outputAt 15 = .ok (.iconst 0, 1) := by decide +kernel
theorem dL_outputAt_16 : decode cL_outputAt 16 = .ok (.ireturn, 1) := by decide +kernel
theorem dL_type_0 : decode cL_type 0 = .ok (.aload_n 2, 1) := by decide +kernel
theorem dL_type_1 : decode cL_type 1 = .ok (.iconst 0, 1) := by decide +kernel
theorem dL_type_2 : decode cL_type 2 = .ok (.aload_n 0, 1) := by decide +kernel
theorem dL_type_3 : decode cL_type 3 = .ok (.iload_n 1, 1) := by decide +kernel
theorem dL_type_4 : decode cL_type 4 = .ok (.invokevirtual 124, 3) := by decide +kernel
theorem dL_type_7 : decode cL_type 7 = .ok (.i2l, 1) := by decide +kernel
theorem dL_type_8 : decode cL_type 8 = .ok (.lastore, 1) := by decide +kernel
theorem dL_type_9 : decode cL_type 9 = .ok (.goto 9, 3) := by decide +kernel
theorem dL_type_12 : decode cL_type 12 = .ok (.astore_n 3, 1) := by decide +kernel
theorem dL_type_13 : decode cL_type 13 = .ok (.iconst 1, 1) := by decide +kernel
theorem dL_type_14 : decode cL_type 14 = .ok (.ireturn, 1) := by decide +kernel
theorem dL_type_15 : decode cL_type 15 = .ok (.astore_n 3, 1) := by decide +kernel
theorem dL_type_16 : decode cL_type 16 = .ok (.iconst 2, 1) := by decide +kernel
theorem dL_type_17 : decode cL_type 17 = .ok (.ireturn, 1) := by decide +kernel
theorem dL_type_18 : decode cL_type 18 = .ok (.iconst 0, 1) := by decide +kernel
theorem dL_type_19 : decode cL_type 19 = .ok (.ireturn, 1) := by decide +kernel
theorem dL_load_0 : decode cL_load 0 = .ok (.aload_n 1, 1) := by decide +kernel
theorem dL_load_1 : decode cL_load 1 = .ok (.iconst 0, 1) := by decide +kernel
theorem dL_load_2 : decode cL_load 2 = .ok (.aload_n 0, 1) := by decide +kernel
theorem dL_load_3 : decode cL_load 3 = .ok (.invokevirtual 128, 3) := by decide +kernel
theorem dL_load_6 : decode cL_load 6 = .ok (.i2l, 1) := by decide +kernel
theorem dL_load_7 : decode cL_load 7 = .ok (.lastore, 1) := by decide +kernel
theorem dL_load_8 : decode cL_load 8 = .ok (.goto 9, 3) := by decide +kernel
theorem dL_load_11 : decode cL_load 11 = .ok (.astore_n 2, 1) := by decide +kernel
theorem dL_load_12 : decode cL_load 12 = .ok (.iconst 1, 1) := by decide +kernel
theorem dL_load_13 : decode cL_load 13 = .ok (.ireturn, 1) := by decide +kernel
theorem dL_load_14 : decode cL_load 14 = .ok (.astore_n 2, 1) := by decide +kernel
theorem dL_load_15 : decode cL_load 15 = .ok (.iconst 2, 1) := by decide +kernel
theorem dL_load_16 : decode cL_load 16 = .ok (.ireturn, 1) := by decide +kernel
theorem dL_load_17 : decode cL_load 17 = .ok (.iconst 0, 1) := by decide +kernel
theorem dL_load_18 : decode cL_load 18 = .ok (.ireturn, 1) := by decide +kernel
theorem dL_runScript_0 : decode cL_runScript 0 = .ok (.aload_n 1, 1) := by decide +kernel
theorem dL_runScript_1 : decode cL_runScript 1 = .ok (.iconst 0, 1) := by decide +kernel
theorem dL_runScript_2 : decode cL_runScript 2 = .ok (.aload_n 0, 1) := by decide +kernel
theorem dL_runScript_3 : decode cL_runScript 3 = .ok (.invokevirtual 131, 3) := by decide +kernel
theorem dL_runScript_6 : decode cL_runScript 6 = .ok (.i2l, 1) := by decide +kernel
theorem dL_runScript_7 : decode cL_runScript 7 = .ok (.lastore, 1) := by decide +kernel
theorem dL_runScript_8 : decode cL_runScript 8 = .ok (.goto 9, 3) := by decide +kernel
theorem dL_runScript_11 : decode cL_runScript 11 = .ok (.astore_n 2, 1) := by decide +kernel
theorem dL_runScript_12 : decode cL_runScript 12 = .ok (.iconst 1, 1) := by decide +kernel
theorem dL_runScript_13 : decode cL_runScript 13 = .ok (.ireturn, 1) := by decide +kernel
theorem dL_runScript_14 : decode cL_runScript 14 = .ok (.astore_n 2, 1) := by decide +kernel
theorem dL_runScript_15 : decode cL_runScript 15 = .ok (.iconst 2, 1) := by decide +kernel
theorem dL_runScript_16 : decode cL_runScript 16 = .ok (.ireturn, 1) := by decide +kernel
theorem dL_runScript_17 : decode cL_runScript 17 = .ok (.iconst 0, 1) := by decide +kernel
theorem dL_runScript_18 : decode cL_runScript 18 = .ok (.ireturn, 1) := by decide +kernel
theorem dL_errorPosition_0 : decode cL_errorPosition 0 = .ok (.aload_n 1, 1) := by decide +kernel
theorem dL_errorPosition_1 : decode cL_errorPosition 1 = .ok (.iconst 0, 1) := by decide +kernel
theorem dL_errorPosition_2 : decode cL_errorPosition 2 = .ok (.aload_n 0, 1) := by decide +kernel
theorem dL_errorPosition_3 : decode cL_errorPosition 3 = .ok (.invokevirtual 134, 3) := by decide +kernel
theorem dL_errorPosition_6 : decode cL_errorPosition 6 = .ok (.i2l, 1) := by decide +kernel
theorem dL_errorPosition_7 : decode cL_errorPosition 7 = .ok (.lastore, 1) := by decide +kernel
theorem dL_errorPosition_8 : decode cL_errorPosition 8 = .ok (.goto 6, 3) := by decide +kernel
theorem dL_errorPosition_11 : decode cL_errorPosition 11 = .ok (.astore_n 2, 1) := by decide +kernel
theorem dL_errorPosition_12 : decode cL_errorPosition 12 = .ok (.iconst 1, 1) := by decide +kernel
theorem dL_errorPosition_13 : decode cL_errorPosition 13 = .ok (.ireturn, 1) := by decide +kernel
theorem dL_errorPosition_14 : decode cL_errorPosition 14 = .ok (.iconst 0, 1) := by decide +kernel
theorem dL_errorPosition_15 : decode cL_errorPosition 15 = .ok (.ireturn, 1) := by decide +kernel
theorem dL_failedCommand_0 : decode cL_failedCommand 0 = .ok (.aload_n 1, 1) := by decide +kernel
theorem dL_failedCommand_1 : decode cL_failedCommand 1 = .ok (.iconst 0, 1) := by decide +kernel
theorem dL_failedCommand_2 : decode cL_failedCommand 2 = .ok (.aload_n 0, 1) := by decide +kernel
theorem dL_failedCommand_3 : decode cL_failedCommand 3 = .ok (.invokevirtual 137, 3) := by decide +kernel
theorem dL_failedCommand_6 : decode cL_failedCommand 6 = .ok (.i2l, 1) := by decide +kernel
theorem dL_failedCommand_7 : decode cL_failedCommand 7 = .ok (.lastore, 1) := by decide +kernel
theorem dL_failedCommand_8 : decode cL_failedCommand 8 = .ok (.goto 6, 3) := by decide +kernel
theorem dL_failedCommand_11 : decode cL_failedCommand 11 = .ok (.astore_n 2, 1) := by decide +kernel
theorem dL_failedCommand_12 : decode cL_failedCommand 12 = .ok (.iconst 1, 1) := by decide +kernel
theorem dL_failedCommand_13 : decode cL_failedCommand 13 = .ok (.ireturn, 1) := by decide +kernel
theorem dL_failedCommand_14 : decode cL_failedCommand 14 = .ok (.iconst 0, 1) := by decide +kernel
theorem dL_failedCommand_15 : decode cL_failedCommand 15 = .ok (.ireturn, 1) := by decide +kernel
theorem dL_undo_0 : decode cL_undo 0 = .ok (.aload_n 1, 1) := by decide +kernel
theorem dL_undo_1 : decode cL_undo 1 = .ok (.iconst 0, 1) := by decide +kernel
theorem dL_undo_2 : decode cL_undo 2 = .ok (.aload_n 0, 1) := by decide +kernel
theorem dL_undo_3 : decode cL_undo 3 = .ok (.invokevirtual 140, 3) := by decide +kernel
theorem dL_undo_6 : decode cL_undo 6 = .ok (.i2l, 1) := by decide +kernel
theorem dL_undo_7 : decode cL_undo 7 = .ok (.lastore, 1) := by decide +kernel
theorem dL_undo_8 : decode cL_undo 8 = .ok (.goto 6, 3) := by decide +kernel
theorem dL_undo_11 : decode cL_undo 11 = .ok (.astore_n 2, 1) := by decide +kernel
theorem dL_undo_12 : decode cL_undo 12 = .ok (.iconst 1, 1) := by decide +kernel
theorem dL_undo_13 : decode cL_undo 13 = .ok (.ireturn, 1) := by decide +kernel
theorem dL_undo_14 : decode cL_undo 14 = .ok (.iconst 0, 1) := by decide +kernel
theorem dL_undo_15 : decode cL_undo 15 = .ok (.ireturn, 1) := by decide +kernel
theorem dL_restore_0 : decode cL_restore 0 = .ok (.aload_n 1, 1) := by decide +kernel
theorem dL_restore_1 : decode cL_restore 1 = .ok (.iconst 0, 1) := by decide +kernel
theorem dL_restore_2 : decode cL_restore 2 = .ok (.aload_n 0, 1) := by decide +kernel
theorem dL_restore_3 : decode cL_restore 3 = .ok (.invokevirtual 143, 3) := by decide +kernel
theorem dL_restore_6 : decode cL_restore 6 = .ok (.i2l, 1) := by decide +kernel
theorem dL_restore_7 : decode cL_restore 7 = .ok (.lastore, 1) := by decide +kernel
theorem dL_restore_8 : decode cL_restore 8 = .ok (.goto 6, 3) := by decide +kernel
theorem dL_restore_11 : decode cL_restore 11 = .ok (.astore_n 2, 1) := by decide +kernel
theorem dL_restore_12 : decode cL_restore 12 = .ok (.iconst 1, 1) := by decide +kernel
theorem dL_restore_13 : decode cL_restore 13 = .ok (.ireturn, 1) := by decide +kernel
theorem dL_restore_14 : decode cL_restore 14 = .ok (.iconst 0, 1) := by decide +kernel
theorem dL_restore_15 : decode cL_restore 15 = .ok (.ireturn, 1) := by decide +kernel
