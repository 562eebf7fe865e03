theorem dX12_repeat_5 : decode cX12_repeat 5 = .ok (.iload_n 2, 1) := by decide +kernel
theorem dX12_repeat_6 : decode cX12_repeat 6 = .ok (.iload_n 3, 1) := by decide +kernel
theorem dX12_repeat_7 : decode cX12_repeat 7 = .ok (.invokevirtual 81, 3) := by decide +kernel
theorem dX12_repeat_10 : decode cX12_repeat 10 = .ok (.ireturn, 1) := by decide +kernel
theorem dX12_copy_0 : decode cX12_copy 0 = .ok (.aload_n 0, 1) := by decide +kernel
theorem dX12_copy_1 : decode cX12_copy 1 = .ok (.getstatic 103, 3) := by decide +kernel
theorem dX12_copy_4 : decode cX12_copy 4 = .ok (.iload_n 1, 1) := by decide +kernel
theorem dX12_copy_5 : decode cX12_copy 5 = .ok (.iload_n 2, 1) := by decide +kernel
theorem dX12_copy_6 : decode cX12_copy 6 = .ok (.iconst 0, 1) := by decide +kernel
theorem dX12_copy_7 : decode cX12_copy 7 = .ok (.invokevirtual 81, 3) := by decide +kernel
theorem dX12_copy_10 : decode cX12_copy 10 = .ok (.ireturn, 1) := by decide +kernel
theorem dX12_paste_0 : decode cX12_paste 0 = .ok (.aload_n 0, 1) := by decide +kernel
theorem dX12_paste_1 : decode cX12_paste 1 = .ok (.getstatic 106, 3) := by decide +kernel
theorem dX12_paste_4 : decode cX12_paste 4 = .ok (.iload_n 1, 1) := by decide +kernel
theorem dX12_paste_5 : decode cX12_paste 5 = .ok (.iconst 0, 1) := by decide +kernel
theorem dX12_paste_6 : decode cX12_paste 6 = .ok (.iconst 0, 1) := by decide +kernel
theorem dX12_paste_7 : decode cX12_paste 7 = .ok (.invokevirtual 81, 3) := by decide +kernel
theorem dX12_paste_10 : decode cX12_paste 10 = .ok (.ireturn, 1) := by decide +kernel
theorem dX12_addMarker_0 : decode cX12_addMarker 0 = .ok (.aload_n 0, 1) := by decide +kernel
theorem dX12_addMarker_1 : decode cX12_addMarker 1 = .ok (.getstatic 109, 3) := by decide +kernel
theorem dX12_addMarker_4 : decode cX12_addMarker 4 = .ok (.iload_n 1, 1) := by decide +kernel
theorem dX12_addMarker_5 : decode cX12_addMarker 5 = .ok (.iconst 0, 1) := by decide +kernel
theorem dX12_addMarker_6 : decode cX12_addMarker 6 = .ok (.iconst 0, 1) := by decide +kernel
theorem dX12_addMarker_7 : decode cX12_addMarker 7 = .ok (.invokevirtual 81, 3) := by decide +kernel
theorem dX12_addMarker_10 : decode cX12_addMarker 10 = .ok (.ifCond .eq 7, 3) := by decide +kernel
theorem dX12_addMarker_13 : decode cX12_addMarker 13 = .ok (.iconst 1, 1) := by decide +kernel
theorem dX12_addMarker_14 : decode cX12_addMarker 14 = .ok (.goto 4, 3) := by decide +kernel
theorem dX12_addMarker_17 : decode cX12_addMarker 17 = .ok (.iconst 0, 1) := by decide +kernel
theorem dX12_addMarker_18 : decode cX12_addMarker 18 = .ok (.ireturn, 1) := by decide +kernel
theorem dX12_removeMarker_0 : decode cX12_removeMarker 0 = .ok (.aload_n 0, 1) := by decide +kernel
theorem dX12_removeMarker_1 : decode cX12_removeMarker 1 = .ok (.getstatic 112, 3) := by decide +kernel
theorem dX12_removeMarker_4 : decode cX12_removeMarker 4 = .ok (.iload_n 1, 1) := by decide +kernel
theorem dX12_removeMarker_5 : decode cX12_removeMarker 5 = .ok (.iconst 0, 1) := by decide +kernel
theorem dX12_removeMarker_6 : decode cX12_removeMarker 6 = .ok (.iconst 0, 1) := by decide +kernel
theorem dX12_removeMarker_7 : decode cX12_removeMarker 7 = .ok (.invokevirtual 81, 3) := by decide +kernel
theorem dX12_removeMarker_10 : decode cX12_removeMarker 10 = .ok (.ifCond .eq 7, 3) := by decide +kernel
theorem dX12_removeMarker_13 : decode cX12_removeMarker 13 = .ok (.iconst 1, 1) := by decide +kernel
theorem dX12_removeMarker_14 : decode cX12_removeMarker 14 = .ok (.goto 4, 3) := by decide +kernel
theorem dX12_removeMarker_17 : decode cX12_removeMarker 17 = .ok (.iconst 0, 1) := by decide +kernel
theorem dX12_removeMarker_18 : decode cX12_removeMarker 18 = .ok (.ireturn, 1) := by decide +kernel
theorem dX12_change_0 : decode cX12_change 0 = .ok (.aload_n 0, 1) := by decide +kernel
theorem dX12_change_1 : decode cX12_change 1 = .ok (.getfield 12, 3) := by decide +kernel
theorem dX12_change_4 : decode cX12_change 4 = .ok (.aload_n 1, 1) := by decide +kernel
theorem dX12_change_5 : decode cX12_change 5 = .ok (.iload_n 2, 1) := by decide +kernel
theorem dX12_change_6 : decode cX12_change 6 = .ok (.iload_n 3, 1) := by decide +kernel
theorem dX12_change_7 : decode cX12_change 7 = .ok (.iload 4, 2) := by decide +kernel
theorem dX12_change_9 : decode cX12_change 9 = .ok (.invokevirtual 115, 3) := by decide +kernel
theorem dX12_change_12 : decode cX12_change 12 = .ok (.invokestatic 119, 3) := by decide +kernel
theorem dX12_change_15 : decode cX12_change 15 = .ok (.aload_n 0, 1) := by decide +kernel
theorem dX12_change_16 : decode cX12_change 16 = .ok (.getfield 25, 3) := by decide +kernel
theorem dX12_change_19 : decode cX12_change 19 = .ok (.aload_n 0, 1) := by decide +kernel
theorem dX12_change_20 : decode cX12_change 20 = .ok (.getfield 12, 3) := by decide +kernel
theorem dX12_change_23 : decode cX12_change 23 = .ok (.invokevirtual 123, 3) := by decide +kernel
theorem dX12_change_26 : decode cX12_change 26 = .ok (.aload_n 0, 1) := by decide +kernel
theorem dX12_change_27 : decode cX12_change 27 = .ok (.getfield 12, 3) := by decide +kernel
theorem dX12_change_30 : decode cX12_change 30 = .ok (.aload_n 1, 1) := by decide +kernel
theorem dX12_change_31 : decode cX12_change 31 = .ok (.iload_n 2, 1) := by decide +kernel
theorem dX12_change_32 : decode cX12_change 32 = .ok (.iload_n 3, 1) := by decide +kernel
theorem dX12_change_33 : decode cX12_change 33 = .ok (.iload 4, 2) := by decide +kernel
theorem dX12_change_35 : decode cX12_change 35 = .ok (.invokevirtual 127, 3) := by decide +kernel
theorem dX12_change_38 : decode cX12_change 38 = .ok (.ireturn, 1) := by decide +kernel
theorem dX12_raise_0 : decode cX12_raise 0 = .ok (.aload_n 0, 1) := by decide +kernel
theorem dX12_raise_1 : decode cX12_raise 1 = .ok (.getstatic 130, 3) := by decide +kernel
theorem dX12_raise_4 : decode cX12_raise 4 = .ok (.if_acmp .ne 13, 3) := by decide +kernel
theorem dX12_raise_7 : decode cX12_raise 7 = .ok (.new 136, 3) := by decide +kernel
theorem dX12_raise_10 : decode cX12_raise 10 = .ok (.dup, 1) := by decide +kernel
theorem dX12_raise_11 : decode cX12_raise 11 = .ok (.ldc 138, 2) := by decide +kernel
theorem dX12_raise_13 : decode cX12_raise 13 = .ok (.invokespecial 140, 3) := by decide +kernel
theorem dX12_raise_16 : decode cX12_raise 16 = .ok (.athrow, 1) := by decide +kernel
theorem dX12_raise_17 : decode cX12_raise 17 = .ok (.aload_n 0, 1) := by decide +kernel
theorem dX12_raise_18 : decode cX12_raise 18 = .ok (.getstatic 143, 3) := by decide +kernel
theorem dX12_raise_21 : decode cX12_raise 21 = .ok (.if_acmp .ne 13, 3) := by decide +kernel
theorem dX12_raise_24 : decode cX12_raise 24 = .ok (.new 146, 3) := by decide +kernel
theorem dX12_raise_27 : decode cX12_raise 27 = .ok (.dup, 1) := by decide +kernel
theorem dX12_raise_28 : decode cX12_raise 28 = .ok (.ldc 148, 2) := by decide +kernel
theorem dX12_raise_30 : decode cX12_raise 30 = .ok (.invokespecial 150, 3) := by decide +kernel
theorem dX12_raise_33 : decode cX12_raise 33 = .ok (.athrow, 1) := by decide +kernel
theorem dX12_raise_34 : decode cX12_raise 34 = .ok (.aload_n 0, 1) := by decide +kernel
theorem dX12_raise_35 : decode cX12_raise 35 = .ok (.getstatic 151, 3) := by decide +kernel
theorem dX12_raise_38 : decode cX12_raise 38 = .ok (.if_acmp .ne 13, 3) := by decide +kernel
theorem dX12_raise_41 : decode cX12_raise 41 = .ok (.new 154, 3) := by decide +kernel
theorem dX12_raise_44 : decode cX12_raise 44 = .ok (.dup, 1) := by decide +kernel
theorem dX12_raise_45 : decode cX12_raise 45 = .ok (.ldc 156, 2) := by decide +kernel
theorem dX12_raise_47 : decode cX12_raise 47 = .ok (.invokespecial 158, 3) := by decide +kernel
theorem dX12_raise_50 : decode cX12_raise 50 = .ok (.athrow, 1) := by decide +kernel
theorem dX12_raise_51 : decode cX12_raise 51 = .ok (.aload_n 0, 1) := by decide +kernel
theorem dX12_raise_52 : decode cX12_raise 52 = .ok (.getstatic 159, 3) := by decide +kernel
theorem dX12_raise_55 : decode cX12_raise 55 = .ok (.if_acmp .ne 13, 3) := by decide +kernel
theorem dX12_raise_58 : decode cX12_raise 58 = .ok (.new 162, 3) := by decide +kernel
theorem dX12_raise_61 : decode cX12_raise 61 = .ok (.dup, 1) := by decide +kernel
theorem dX12_raise_62 : decode cX12_raise 62 = .ok (.ldc 164, 2) := by decide +kernel
theorem dX12_raise_64 : decode cX12_raise 64 = .ok (.invokespecial 166, 3) := by decide +kernel
theorem dX12_raise_67 : decode cX12_raise 67 = .ok (.athrow, 1) := by decide +kernel
theorem dX12_raise_68 : decode cX12_raise 68 = .ok (.return_, 1) := by decide +kernel
theorem dX12_raiseUnless_0 : decode cX12_raiseUnless 0 = .ok (.iload_n 0, 1) := by decide +kernel
theorem dX12_raiseUnless_1 : decode cX12_raiseUnless 1 = .ok (.ifCond .ne 7, 3) := by decide +kernel
theorem dX12_raiseUnless_4 : decode cX12_raiseUnless 4 = .ok (.aload_n 1, 1) := by decide +kernel
theorem dX12_raiseUnless_5 : decode cX12_raiseUnless 5 = .ok (.invokestatic 119, 3) := by decide +kernel
theorem dX12_raiseUnless_8 : decode cX12_raiseUnless 8 = .ok (.return_, 1) := by decide +kernel
theorem dX12_duration_0 : decode cX12_duration 0 = .ok (.aload_n 0, 1) := by decide +kernel
theorem dX12_duration_1 : decode cX12_duration 1 = .ok (.getfield 12, 3) := by decide +kernel
theorem dX12_duration_4 : decode cX12_duration 4 = .ok (.getfield 167, 3) := by decide +kernel
theorem dX12_duration_7 : decode cX12_duration 7 = .ok (.invokevirtual 170, 3) := by decide +kernel
theorem dX12_duration_10 : decode cX12_duration 10 = .ok (.ireturn, 1) := by decide +kernel
theorem dX12_levelAt_0 : decode cX12_levelAt 0 = .ok (.aload_n 0, 1) := by decide +kernel
theorem dX12_levelAt_1 : decode cX12_levelAt 1 = .ok (.getfield 12, 3) := by decide +kernel
theorem dX12_levelAt_4 : decode cX12_levelAt 4 = .ok (.getfield 167, 3) := by decide +kernel
theorem dX12_levelAt_7 : decode cX12_levelAt 7 = .ok (.iload_n 1, 1) := by decide +kernel
theorem dX12_levelAt_8 : decode cX12_levelAt 8 = .ok (.invokevirtual 174, 3) := by decide +kernel
theorem dX12_levelAt_11 : decode cX12_levelAt 11 = .ok (.getstatic 130, 3) := by decide +kernel
theorem dX12_levelAt_14 : decode cX12_levelAt 14 = .ok (.invokestatic 178, 3) := by decide +kernel
theorem dX12_levelAt_17 : decode cX12_levelAt 17 = .ok (.aload_n 0, 1) := by decide +kernel
theorem dX12_levelAt_18 : decode cX12_levelAt 18 = .ok (.getfield 12, 3) := by decide +kernel
theorem dX12_levelAt_21 : decode cX12_levelAt 21 = .ok (.getfield 167, 3) := by decide +kernel
theorem dX12_levelAt_24 : decode cX12_levelAt 24 = .ok (.iload_n 1, 1) := by decide +kernel
theorem dX12_levelAt_25 : decode cX12_levelAt 25 = .ok (.invokevirtual 182, 3) := by decide +kernel
theorem dX12_levelAt_28 : decode cX12_levelAt 28 = .ok (.ireturn, 1) := by decide +kernel
theorem dX12_runCount_0 : decode cX12_runCount 0 = .ok (.aload_n 0, 1) := by decide +kernel
theorem dX12_runCount_1 : decode cX12_runCount 1 = .ok (.invokevirtual 186, 3) := by decide +kernel
theorem dX12_runCount_4 : decode cX12_runCount 4 = .ok (.invokevirtual 190, 3) := by decide +kernel
theorem dX12_runCount_7 : decode cX12_runCount 7 = .ok (.ireturn, 1) := by decide +kernel
theorem dX12_runStart_0 : decode cX12_runStart 0 = .ok (.aload_n 0, 1) := by decide +kernel
theorem dX12_runStart_1 : decode cX12_runStart 1 = .ok (.iload_n 1, 1) := by decide +kernel
theorem dX12_runStart_2 : decode cX12_runStart 2 = .ok (.invokevirtual 193, 3) := by decide +kernel
theorem dX12_runStart_5 : decode cX12_runStart 5 = .ok (.iload_n 1, 1) := by decide +kernel
theorem dX12_runStart_6 : decode cX12_runStart 6 = .ok (.invokevirtual 197, 3) := by decide +kernel
theorem dX12_runStart_9 : decode cX12_runStart 9 = .ok (.ireturn, 1) := by decide +kernel
theorem dX12_runLength_0 : decode cX12_runLength 0 = .ok (.aload_n 0, 1) := by decide +kernel
theorem dX12_runLength_1 : decode cX12_runLength 1 = .ok (.iload_n 1, 1) := by decide +kernel
theorem dX12_runLength_2 : decode cX12_runLength 2 = .ok (.invokevirtual 193, 3) := by decide +kernel
theorem dX12_runLength_5 : decode cX12_runLength 5 = .ok (.iload_n 1, 1) := by decide +kernel
theorem dX12_runLength_6 : decode cX12_runLength 6 = .ok (.invokevirtual 200, 3) := by decide +kernel
theorem dX12_runLength_9 : decode cX12_runLength 9 = .ok (.ireturn, 1) := by decide +kernel
theorem dX12_runLevel_0 : decode cX12_runLevel 0 = .ok (.aload_n 0, 1) := by decide +kernel
theorem dX12_runLevel_1 : decode cX12_runLevel 1 = .ok (.iload_n 1, 1) := by decide +kernel
theorem dX12_runLevel_2 : decode cX12_runLevel 2 = .ok (.invokevirtual 193, 3) := by decide +kernel
theorem dX12_runLevel_5 : decode cX12_runLevel 5 = .ok (.iload_n 1, 1) := by decide +kernel
theorem dX12_runLevel_6 : decode cX12_runLevel 6 = .ok (.invokevirtual 203, 3) := by decide +kernel
theorem dX12_runLevel_9 : decode cX12_runLevel 9 = .ok (.ireturn, 1) := by decide +kernel
theorem dX12_currentRuns_0 : decode cX12_currentRuns 0 = .ok (.aload_n 0, 1) := by decide +kernel
theorem dX12_currentRuns_1 : decode cX12_currentRuns 1 = .ok (.getfield 32, 3) := by decide +kernel
theorem dX12_currentRuns_4 : decode cX12_currentRuns 4 = .ok (.aload_n 0, 1) := by decide +kernel
theorem dX12_currentRuns_5 : decode cX12_currentRuns 5 = .ok (.getfield 12, 3) := by decide +kernel
theorem dX12_currentRuns_8 : decode cX12_currentRuns 8 = .ok (.getfield 167, 3) := by decide +kernel
theorem dX12_currentRuns_11 : decode cX12_currentRuns 11 = .ok (.invokevirtual 206, 3) := by decide +kernel
theorem dX12_currentRuns_14 : decode cX12_currentRuns 14 = .ok (.aload_n 0, 1) := by decide +kernel
theorem dX12_currentRuns_15 : decode cX12_currentRuns 15 = .ok (.getfield 32, 3) := by decide +kernel
theorem dX12_currentRuns_18 : decode cX12_currentRuns 18 = .ok (.areturn, 1) := by decide +kernel
theorem dX12_runsWith_0 : decode cX12_runsWith 0 = .ok (.aload_n 0, 1) := by decide +kernel
theorem dX12_runsWith_1 : decode cX12_runsWith 1 = .ok (.invokevirtual 186, 3) := by decide +kernel
theorem dX12_runsWith_4 : decode cX12_runsWith 4 = .ok (.iload_n 1, 1) := by decide +kernel
theorem dX12_runsWith_5 : decode cX12_runsWith 5 = .ok (.invokevirtual 210, 3) := by decide +kernel
theorem dX12_runsWith_8 : decode cX12_runsWith 8 = .ok (.getstatic 130, 3) := by decide +kernel
theorem dX12_runsWith_11 : decode cX12_runsWith 11 = .ok (.invokestatic 178, 3) := by decide +kernel
theorem dX12_runsWith_14 : decode cX12_runsWith 14 = .ok (.aload_n 0, 1) := by decide +kernel
theorem dX12_runsWith_15 : decode cX12_runsWith 15 = .ok (.getfield 32, 3) := by decide +kernel
theorem dX12_runsWith_18 : decode cX12_runsWith 18 = .ok (.areturn, 1) := by decide +kernel
theorem dX12_restTicks_0 : decode cX12_restTicks 0 = .ok (.aload_n 0, 1) := by decide +kernel
theorem dX12_restTicks_1 : decode cX12_restTicks 1 = .ok (.invokevirtual 186, 3) := by decide +kernel
theorem dX12_restTicks_4 : decode cX12_restTicks 4 = .ok (.invokevirtual 213, 3) := by decide +kernel
theorem dX12_restTicks_7 : decode cX12_restTicks 7 = .ok (.ireturn, 1) := by decide +kernel
theorem dX12_humTicks_0 : decode cX12_humTicks 0 = .ok (.aload_n 0, 1) := by decide +kernel
theorem dX12_humTicks_1 : decode cX12_humTicks 1 = .ok (.invokevirtual 186, 3) := by decide +kernel
theorem dX12_humTicks_4 : decode cX12_humTicks 4 = .ok (.invokevirtual 216, 3) := by decide +kernel
theorem dX12_humTicks_7 : decode cX12_humTicks 7 = .ok (.ireturn, 1) := by decide +kernel
theorem dX12_ticksAtLevel_0 : decode cX12_ticksAtLevel 0 = .ok (.iload_n 1, 1) := by decide +kernel
theorem dX12_ticksAtLevel_1 : decode cX12_ticksAtLevel 1 = .ok (.invokestatic 219, 3) := by decide +kernel
theorem dX12_ticksAtLevel_4 : decode cX12_ticksAtLevel 4 = .ok (.getstatic 143, 3) := by decide +kernel
theorem dX12_ticksAtLevel_7 : decode cX12_ticksAtLevel 7 = .ok (.invokestatic 178, 3) := by decide +kernel
theorem dX12_ticksAtLevel_10 : decode cX12_ticksAtLevel 10 = .ok (.aload_n 0, 1) := by decide +kernel
theorem dX12_ticksAtLevel_11 : decode cX12_ticksAtLevel 11 = .ok (.getfield 12, 3) := by decide +kernel
theorem dX12_ticksAtLevel_14 : decode cX12_ticksAtLevel 14 = .ok (.getfield 167, 3) := by decide +kernel
theorem dX12_ticksAtLevel_17 : decode cX12_ticksAtLevel 17 = .ok (.iload_n 1, 1) := by decide +kernel
theorem dX12_ticksAtLevel_18 : decode cX12_ticksAtLevel 18 = .ok (.invokevirtual 222, 3) := by decide +kernel
theorem dX12_ticksAtLevel_21 : decode cX12_ticksAtLevel 21 = .ok (.ireturn, 1) := by decide +kernel
theorem dX12_isLevel_0 : decode cX12_isLevel 0 = .ok (.iload_n 0, 1) := by decide +kernel
theorem dX12_isLevel_1 : decode cX12_isLevel 1 = .ok (.ifCond .lt 13, 3) := by decide +kernel
theorem dX12_isLevel_4 : decode cX12_isLevel 4 = .ok (.iload_n 0, 1) := by decide +kernel
theorem dX12_isLevel_5 : decode cX12_isLevel 5 = .ok (.bipush 9, 2) := by decide +kernel
theorem dX12_isLevel_7 : decode cX12_isLevel 7 = .ok (.if_icmp .gt 7, 3) := by decide +kernel
theorem dX12_isLevel_10 : decode cX12_isLevel 10 = .ok (.iconst 1, 1) := by decide +kernel
theorem dX12_isLevel_11 : decode cX12_isLevel 11 = .ok (.goto 4, 3) := by decide +kernel
theorem dX12_isLevel_14 : decode cX12_isLevel 14 = .ok (.iconst 0, 1) := by decide +kernel
theorem dX12_isLevel_15 : decode cX12_isLevel 15 = .ok (.ireturn, 1) := by decide +kernel
theorem dX12_loudness_0 : decode cX12_loudness 0 = .ok (.aload_n 0, 1) := by decide +kernel
theorem dX12_loudness_1 : decode cX12_loudness 1 = .ok (.invokevirtual 186, 3) := by decide +kernel
theorem dX12_loudness_4 : decode cX12_loudness 4 = .ok (.invokevirtual 225, 3) := by decide +kernel
theorem dX12_loudness_7 : decode cX12_loudness 7 = .ok (.lreturn, 1) := by decide +kernel
theorem dX12_loudnessByLevels_0 : decode cX12_loudnessByLevels 0 = .ok (.lconst 0, 1) := by decide +kernel
theorem dX12_loudnessByLevels_1 : decode cX12_loudnessByLevels 1 = .ok (.lstore_n 1, 1) := by decide +kernel
theorem dX12_loudnessByLevels_2 : decode cX12_loudnessByLevels 2 = .ok (.iconst 0, 1) := by decide +kernel
theorem dX12_loudnessByLevels_3 : decode cX12_loudnessByLevels 3 = .ok (.istore_n 3, 1) := by decide +kernel
theorem dX12_loudnessByLevels_4 : decode cX12_loudnessByLevels 4 = .ok (.iload_n 3, 1) := by decide +kernel
theorem dX12_loudnessByLevels_5 : decode cX12_loudnessByLevels 5 = .ok (.bipush 9, 2) := by decide +kernel
theorem dX12_loudnessByLevels_7 : decode cX12_loudnessByLevels 7 = .ok (.if_icmp .gt 27, 3) := by decide +kernel
theorem dX12_loudnessByLevels_10 : decode cX12_loudnessByLevels 10 = .ok (.lload_n 1, 1) := by decide +kernel
theorem dX12_loudnessByLevels_11 : decode cX12_loudnessByLevels 11 = .ok (.iload_n 3, 1) := by decide +kernel
theorem dX12_loudnessByLevels_12 : decode cX12_loudnessByLevels 12 = .ok (.i2l, 1) := by decide +kernel
theorem dX12_loudnessByLevels_13 : decode cX12_loudnessByLevels 13 = .ok (.aload_n 0, 1) := by decide +kernel
theorem dX12_loudnessByLevels_14 : decode cX12_loudnessByLevels 14 = .ok (.getfield 12, 3) := by decide +kernel
theorem dX12_loudnessByLevels_17 : decode cX12_loudnessByLevels 17 = .ok (.getfield 167, 3) := by decide +kernel
theorem dX12_loudnessByLevels_20 : decode cX12_loudnessByLevels 20 = .ok (.iload_n 3, 1) := by decide +kernel
theorem dX12_loudnessByLevels_21 : decode cX12_loudnessByLevels 21 = .ok (.invokevirtual 222, 3) := by decide +kernel
theorem dX12_loudnessByLevels_24 : decode cX12_loudnessByLevels 24 = .ok (.i2l, 1) := by decide +kernel
theorem dX12_loudnessByLevels_25 : decode cX12_loudnessByLevels 25 = .ok (.lmul, 1) := by decide +kernel
theorem dX12_loudnessByLevels_26 : decode cX12_loudnessByLevels 26 = .ok (.ladd, 1) := by decide +kernel
theorem dX12_loudnessByLevels_27 : decode cX12_loudnessByLevels 27 = .ok (.lstore_n 1, 1) := by decide +kernel
theorem dX12_loudnessByLevels_28 : decode cX12_loudnessByLevels 28 = .ok (.iinc 3 1, 3) := by decide +kernel
theorem dX12_loudnessByLevels_31 : decode cX12_loudnessByLevels 31 = .ok (.goto (-27), 3) := by decide +kernel
theorem dX12_loudnessByLevels_34 : decode cX12_loudnessByLevels 34 = .ok (.lload_n 1, 1) := by decide +kernel
theorem dX12_loudnessByLevels_35 : decode cX12_loudnessByLevels 35 = .ok (.lreturn, 1) := by decide +kernel
theorem dX12_loudnessIn_0 : decode cX12_loudnessIn 0 = .ok (.aload_n 0, 1) := by decide +kernel
theorem dX12_loudnessIn_1 : decode cX12_loudnessIn 1 = .ok (.getfield 12, 3) := by decide +kernel
theorem dX12_loudnessIn_4 : decode cX12_loudnessIn 4 = .ok (.iload_n 1, 1) := by decide +kernel
theorem dX12_loudnessIn_5 : decode cX12_loudnessIn 5 = .ok (.iload_n 2, 1) := by decide +kernel
theorem dX12_loudnessIn_6 : decode cX12_loudnessIn 6 = .ok (.invokevirtual 229, 3) := by decide +kernel
theorem dX12_loudnessIn_9 : decode cX12_loudnessIn 9 = .ok (.invokestatic 119, 3) := by decide +kernel
theorem dX12_loudnessIn_12 : decode cX12_loudnessIn 12 = .ok (.aload_n 0, 1) := by decide +kernel
theorem dX12_loudnessIn_13 : decode cX12_loudnessIn 13 = .ok (.getfield 12, 3) := by decide +kernel
theorem dX12_loudnessIn_16 : decode cX12_loudnessIn 16 = .ok (.getfield 167, 3) := by decide +kernel
theorem dX12_loudnessIn_19 : decode cX12_loudnessIn 19 = .ok (.iload_n 1, 1) := by decide +kernel
theorem dX12_loudnessIn_20 : decode cX12_loudnessIn 20 = .ok (.iload_n 2, 1) := by decide +kernel
theorem dX12_loudnessIn_21 : decode cX12_loudnessIn 21 = .ok (.invokevirtual 233, 3) := by decide +kernel
theorem dX12_loudnessIn_24 : decode cX12_loudnessIn 24 = .ok (.ireturn, 1) := by decide +kernel
theorem dX12_loudnessInByPrefixes_0 : decode cX12_loudnessInByPrefixes 0 = .ok (.aload_n 0, 1) := by decide +kernel
theorem dX12_loudnessInByPrefixes_1 : decode cX12_loudnessInByPrefixes 1 = .ok (.getfield 12, 3) := by decide +kernel
theorem dX12_loudnessInByPrefixes_4 : decode cX12_loudnessInByPrefixes 4 = .ok (.iload_n 1, 1) := by decide +kernel
theorem dX12_loudnessInByPrefixes_5 : decode cX12_loudnessInByPrefixes 5 = .ok (.iload_n 2, 1) := by decide +kernel
theorem dX12_loudnessInByPrefixes_6 : decode cX12_loudnessInByPrefixes 6 = .ok (.invokevirtual 229, 3) := by decide +kernel
theorem dX12_loudnessInByPrefixes_9 : decode cX12_loudnessInByPrefixes 9 = .ok (.invokestatic 119, 3) := by decide +kernel
theorem dX12_loudnessInByPrefixes_12 : decode cX12_loudnessInByPrefixes 12 = .ok (.aload_n 0, 1) := by decide +kernel
theorem dX12_loudnessInByPrefixes_13 : decode cX12_loudnessInByPrefixes 13 = .ok (.getfield 12, 3) := by decide +kernel
theorem dX12_loudnessInByPrefixes_16 : decode cX12_loudnessInByPrefixes 16 = .ok (.getfield 167, 3) := by decide +kernel
theorem dX12_loudnessInByPrefixes_19 : decode cX12_loudnessInByPrefixes 19 = .ok (.iconst 0, 1) := by decide +kernel
theorem dX12_loudnessInByPrefixes_20 : decode cX12_loudnessInByPrefixes 20 = .ok (.iload_n 2, 1) := by decide +kernel
theorem dX12_loudnessInByPrefixes_21 : decode cX12_loudnessInByPrefixes 21 = .ok (.invokevirtual 233, 3) := by decide +kernel
theorem dX12_loudnessInByPrefixes_24 : decode cX12_loudnessInByPrefixes 24 = .ok (.aload_n 0, 1) := by decide +kernel
theorem dX12_loudnessInByPrefixes_25 : decode cX12_loudnessInByPrefixes 25 = .ok (.getfield 12, 3) := by decide +kernel
theorem dX12_loudnessInByPrefixes_28 : decode cX12_loudnessInByPrefixes 28 = .ok (.getfield 167, 3) := by decide +kernel
theorem dX12_loudnessInByPrefixes_31 : decode cX12_loudnessInByPrefixes 31 = .ok (.iconst 0, 1) := by decide +kernel
theorem dX12_loudnessInByPrefixes_32 : decode cX12_loudnessInByPrefixes 32 = .ok (.iload_n 1, 1) := by decide +kernel
theorem dX12_loudnessInByPrefixes_33 : decode cX12_loudnessInByPrefixes 33 = .ok (.invokevirtual 233, 3) := by decide +kernel
theorem dX12_loudnessInByPrefixes_36 : decode cX12_loudnessInByPrefixes 36 = .ok (.isub, 1) := by decide +kernel
theorem dX12_loudnessInByPrefixes_37 : decode cX12_loudnessInByPrefixes 37 = .ok (.ireturn, 1) := by decide +kernel
theorem dX12_isSilent_0 : decode cX12_isSilent 0 = .ok (.aload_n 0, 1) := by decide +kernel
theorem dX12_isSilent_1 : decode cX12_isSilent 1 = .ok (.getfield 12, 3) := by decide +kernel
theorem dX12_isSilent_4 : decode cX12_isSilent 4 = .ok (.iload_n 1, 1) := by decide +kernel
theorem dX12_isSilent_5 : decode cX12_isSilent 5 = .ok (.iload_n 2, 1) := by decide +kernel
theorem dX12_isSilent_6 : decode cX12_isSilent 6 = .ok (.invokevirtual 229, 3) := by decide +kernel
theorem dX12_isSilent_9 : decode cX12_isSilent 9 = .ok (.invokestatic 119, 3) := by decide +kernel
theorem dX12_isSilent_12 : decode cX12_isSilent 12 = .ok (.aload_n 0, 1) := by decide +kernel
theorem dX12_isSilent_13 : decode cX12_isSilent 13 = .ok (.getfield 12, 3) := by decide +kernel
theorem dX12_isSilent_16 : decode cX12_isSilent 16 = .ok (.getfield 167, 3) := by decide +kernel
theorem dX12_isSilent_19 : decode cX12_isSilent 19 = .ok (.iload_n 1, 1) := by decide +kernel
theorem dX12_isSilent_20 : decode cX12_isSilent 20 = .ok (.iload_n 2, 1) := by decide +kernel
theorem dX12_isSilent_21 : decode cX12_isSilent 21 = .ok (.invokevirtual 237, 3) := by decide +kernel
theorem dX12_isSilent_24 : decode cX12_isSilent 24 = .ok (.ifCond .ne 7, 3) := by decide +kernel
theorem dX12_isSilent_27 : decode cX12_isSilent 27 = .ok (.iconst 1, 1) := by decide +kernel
theorem dX12_isSilent_28 : decode cX12_isSilent 28 = .ok (.goto 4, 3) := by decide +kernel
theorem dX12_isSilent_31 : decode cX12_isSilent 31 = .ok (.iconst 0, 1) := by decide +kernel
theorem dX12_isSilent_32 : decode cX12_isSilent 32 = .ok (.ireturn, 1) := by decide +kernel
theorem dX12_peakLevel_0 : decode cX12_peakLevel 0 = .ok (.iconst 0, 1) := by decide +kernel
theorem dX12_peakLevel_1 : decode cX12_peakLevel 1 = .ok (.istore_n 1, 1) := by decide +kernel
theorem dX12_peakLevel_2 : decode cX12_peakLevel 2 = .ok (.iconst 0, 1) := by decide +kernel
theorem dX12_peakLevel_3 : decode cX12_peakLevel 3 = .ok (.istore_n 2, 1) := by decide +kernel
theorem dX12_peakLevel_4 : decode cX12_peakLevel 4 = .ok (.iload_n 2, 1) := by decide +kernel
theorem dX12_peakLevel_5 : decode cX12_peakLevel 5 = .ok (.aload_n 0, 1) := by decide +kernel
theorem dX12_peakLevel_6 : decode cX12_peakLevel 6 = .ok (.getfield 12, 3) := by decide +kernel
theorem dX12_peakLevel_9 : decode cX12_peakLevel 9 = .ok (.getfield 167, 3) := by decide +kernel
theorem dX12_peakLevel_12 : decode cX12_peakLevel 12 = .ok (.invokevirtual 170, 3) := by decide +kernel
theorem dX12_peakLevel_15 : decode cX12_peakLevel 15 = .ok (.if_icmp .ge 25, 3) := by decide +kernel
theorem dX12_peakLevel_18 : decode cX12_peakLevel 18 = .ok (.iload_n 1, 1) := by decide +kernel
theorem dX12_peakLevel_19 : decode cX12_peakLevel 19 = .ok (.aload_n 0, 1) := by decide +kernel
theorem dX12_peakLevel_20 : decode cX12_peakLevel 20 = .ok (.getfield 12, 3) := by decide +kernel
theorem dX12_peakLevel_23 : decode cX12_peakLevel 23 = .ok (.getfield 167, 3) := by decide +kernel
theorem dX12_peakLevel_26 : decode cX12_peakLevel 26 = .ok (.iload_n 2, 1) := by decide +kernel
theorem dX12_peakLevel_27 : decode cX12_peakLevel 27 = .ok (.invokevirtual 182, 3) := by decide +kernel
theorem dX12_peakLevel_30 : decode cX12_peakLevel 30 = .ok (.invokestatic 240, 3) := by decide +kernel
theorem dX12_peakLevel_33 : decode cX12_peakLevel 33 = .ok (.istore_n 1, 1) := by decide +kernel
theorem dX12_peakLevel_34 : decode cX12_peakLevel 34 = .ok (.iinc 2 1, 3) := by decide +kernel
theorem dX12_peakLevel_37 : decode cX12_peakLevel 37 = .ok (.goto (-33), 3) := by decide +kernel
theorem dX12_peakLevel_40 : decode cX12_peakLevel 40 = .ok (.iload_n 1, 1) := by decide +kernel
theorem dX12_peakLevel_41 : decode cX12_peakLevel 41 = .ok (.ireturn, 1) := by decide +kernel
theorem dX12_restCount_0 : decode cX12_restCount 0 = .ok (.aload_n 0, 1) := by decide +kernel
theorem dX12_restCount_1 : decode cX12_restCount 1 = .ok (.invokevirtual 186, 3) := by decide +kernel
theorem dX12_restCount_4 : decode cX12_restCount 4 = .ok (.invokevirtual 245, 3) := by decide +kernel
theorem dX12_restCount_7 : decode cX12_restCount 7 = .ok (.ireturn, 1) := by decide +kernel
theorem dX12_restStartByLength_0 : decode cX12_restStartByLength 0 = .ok (.aload_n 0, 1) := by decide +kernel
theorem dX12_restStartByLength_1 : decode cX12_restStartByLength 1 = .ok (.invokevirtual 186, 3) := by decide +kernel
theorem dX12_restStartByLength_4 : decode cX12_restStartByLength 4 = .ok (.iload_n 1, 1) := by decide +kernel
theorem dX12_restStartByLength_5 : decode cX12_restStartByLength 5 = .ok (.invokevirtual 248, 3) := by decide +kernel
theorem dX12_restStartByLength_8 : decode cX12_restStartByLength 8 = .ok (.istore_n 2, 1) := by decide +kernel
theorem dX12_restStartByLength_9 : decode cX12_restStartByLength 9 = .ok (.iload_n 2, 1) := by decide +kernel
theorem dX12_restStartByLength_10 : decode cX12_restStartByLength 10 = .ok (.iconst (-1), 1) := by decide +kernel
theorem dX12_restStartByLength_11 : decode cX12_restStartByLength 11 = .ok (.if_icmp .eq 7, 3) := by decide +kernel
theorem dX12_restStartByLength_14 : decode cX12_restStartByLength 14 = .ok (.iconst 1, 1) := by decide +kernel
theorem dX12_restStartByLength_15 : decode cX12_restStartByLength 15 = .ok (.goto 4, 3) := by decide +kernel
theorem dX12_restStartByLength_18 : decode cX12_restStartByLength 18 = .ok (.iconst 0, 1) := by decide +kernel
theorem dX12_restStartByLength_19 : decode cX12_restStartByLength 19 = .ok (.getstatic 159, 3) := by decide +kernel
theorem dX12_restStartByLength_22 : decode cX12_restStartByLength 22 = .ok (.invokestatic 178, 3) := by decide +kernel
theorem dX12_restStartByLength_25 : decode cX12_restStartByLength 25 = .ok (.aload_n 0, 1) := by decide +kernel
theorem dX12_restStartByLength_26 : decode cX12_restStartByLength 26 = .ok (.getfield 32, 3) := by decide +kernel
theorem dX12_restStartByLength_29 : decode cX12_restStartByLength 29 = .ok (.iload_n 2, 1) := by decide +kernel
theorem dX12_restStartByLength_30 : decode cX12_restStartByLength 30 = .ok (.invokevirtual 197, 3) := by decide +kernel
theorem dX12_restStartByLength_33 : decode cX12_restStartByLength 33 = .ok (.ireturn, 1) := by decide +kernel
theorem dX12_nextChange_0 : decode cX12_nextChange 0 = .ok (.aload_n 0, 1) := by decide +kernel
theorem dX12_nextChange_1 : decode cX12_nextChange 1 = .ok (.getfield 12, 3) := by decide +kernel
theorem dX12_nextChange_4 : decode cX12_nextChange 4 = .ok (.getfield 167, 3) := by decide +kernel
theorem dX12_nextChange_7 : decode cX12_nextChange 7 = .ok (.iload_n 1, 1) := by decide +kernel
theorem dX12_nextChange_8 : decode cX12_nextChange 8 = .ok (.invokevirtual 174, 3) := by decide +kernel
theorem dX12_nextChange_11 : decode cX12_nextChange 11 = .ok (.getstatic 130, 3) := by decide +kernel
theorem dX12_nextChange_14 : decode cX12_nextChange 14 = .ok (.invokestatic 178, 3) := by decide +kernel
theorem dX12_nextChange_17 : decode cX12_nextChange 17 = .ok (.aload_n 0, 1) := by decide +kernel
theorem dX12_nextChange_18 : decode cX12_nextChange 18 = .ok (.invokevirtual 186, 3) := by decide +kernel
theorem dX12_nextChange_21 : decode cX12_nextChange 21 = .ok (.iload_n 1, 1) := by decide +kernel
theorem dX12_nextChange_22 : decode cX12_nextChange 22 = .ok (.invokevirtual 251, 3) := by decide +kernel
theorem dX12_nextChange_25 : decode cX12_nextChange 25 = .ok (.istore_n 2, 1) := by decide +kernel
theorem dX12_nextChange_26 : decode cX12_nextChange 26 = .ok (.iload_n 2, 1) := by decide +kernel
theorem dX12_nextChange_27 : decode cX12_nextChange 27 = .ok (.iconst (-1), 1) := by decide +kernel
theorem dX12_nextChange_28 : decode cX12_nextChange 28 = .ok (.if_icmp .eq 7, 3) := by decide +kernel
theorem dX12_nextChange_31 : decode cX12_nextChange 31 = .ok (.iconst 1, 1) := by decide +kernel
theorem dX12_nextChange_32 : decode cX12_nextChange 32 = .ok (.goto 4, 3) := by decide +kernel
theorem dX12_nextChange_35 : decode cX12_nextChange 35 = .ok (.iconst 0, 1) := by decide +kernel
theorem dX12_nextChange_36 : decode cX12_nextChange 36 = .ok (.getstatic 159, 3) := by decide +kernel
theorem dX12_nextChange_39 : decode cX12_nextChange 39 = .ok (.invokestatic 178, 3) := by decide +kernel
theorem dX12_nextChange_42 : decode cX12_nextChange 42 = .ok (.aload_n 0, 1) := by decide +kernel
theorem dX12_nextChange_43 : decode cX12_nextChange 43 = .ok (.getfield 32, 3) := by decide +kernel
theorem dX12_nextChange_46 : decode cX12_nextChange 46 = .ok (.iload_n 2, 1) := by decide +kernel
theorem dX12_nextChange_47 : decode cX12_nextChange 47 = .ok (.invokevirtual 197, 3) := by decide +kernel
theorem dX12_nextChange_50 : decode cX12_nextChange 50 = .ok (.ireturn, 1) := by decide +kernel
theorem dX12_findRun_0 : decode cX12_findRun 0 = .ok (.iload_n 1, 1) := by decide +kernel
theorem dX12_findRun_1 : decode cX12_findRun 1 = .ok (.invokestatic 219, 3) := by decide +kernel
theorem dX12_findRun_4 : decode cX12_findRun 4 = .ok (.ifCond .eq 12, 3) := by decide +kernel
theorem dX12_findRun_7 : decode cX12_findRun 7 = .ok (.iload_n 2, 1) := by decide +kernel
theorem dX12_findRun_8 : decode cX12_findRun 8 = .ok (.iconst 1, 1) := by decide +kernel
theorem dX12_findRun_9 : decode cX12_findRun 9 = .ok (.if_icmp .lt 7, 3) := by decide +kernel
theorem dX12_findRun_12 : decode cX12_findRun 12 = .ok (.iconst 1, 1) := by decide +kernel
theorem dX12_findRun_13 : decode cX12_findRun 13 = .ok (.goto 4, 3) := by decide +kernel
theorem dX12_findRun_16 : decode cX12_findRun 16 = .ok (.iconst 0, 1) := by decide +kernel
theorem dX12_findRun_17 : decode cX12_findRun 17 = .ok (.getstatic 143, 3) := by decide +kernel
theorem dX12_findRun_20 : decode cX12_findRun 20 = .ok (.invokestatic 178, 3) := by decide +kernel
theorem dX12_findRun_23 : decode cX12_findRun 23 = .ok (.aload_n 0, 1) := by decide +kernel
theorem dX12_findRun_24 : decode cX12_findRun 24 = .ok (.invokevirtual 186, 3) := by decide +kernel
theorem dX12_findRun_27 : decode cX12_findRun 27 = .ok (.iload_n 1, 1) := by decide +kernel
theorem dX12_findRun_28 : decode cX12_findRun 28 = .ok (.iload_n 2, 1) := by decide +kernel
theorem dX12_findRun_29 : decode cX12_findRun 29 = .ok (.invokevirtual 254, 3) := by decide +kernel
theorem dX12_findRun_32 : decode cX12_findRun 32 = .ok (.istore_n 3, 1) := by decide +kernel
theorem dX12_findRun_33 : decode cX12_findRun 33 = .ok (.iload_n 3, 1) := by decide +kernel
theorem dX12_findRun_34 : decode cX12_findRun 34 = .ok (.iconst (-1), 1) := by decide +kernel
theorem dX12_findRun_35 : decode cX12_findRun 35 = .ok (.if_icmp .eq 7, 3) := by decide +kernel
theorem dX12_findRun_38 : decode cX12_findRun 38 = .ok (.iconst 1, 1) := by decide +kernel
theorem dX12_findRun_39 : decode cX12_findRun 39 = .ok (.goto 4, 3) := by decide +kernel
theorem dX12_findRun_42 : decode cX12_findRun 42 = .ok (.iconst 0, 1) := by decide +kernel
theorem dX12_findRun_43 : decode cX12_findRun 43 = .ok (.getstatic 159, 3) := by decide +kernel
theorem dX12_findRun_46 : decode cX12_findRun 46 = .ok (.invokestatic 178, 3) := by decide +kernel
theorem dX12_findRun_49 : decode cX12_findRun 49 = .ok (.iload_n 3, 1) := by decide +kernel
theorem dX12_findRun_50 : decode cX12_findRun 50 = .ok (.ireturn, 1) := by decide +kernel
theorem dX12_meanLevel_0 : decode cX12_meanLevel 0 = .ok (.aload_n 0, 1) := by decide +kernel
theorem dX12_meanLevel_1 : decode cX12_meanLevel 1 = .ok (.invokevirtual 257, 3) := by decide +kernel
theorem dX12_meanLevel_4 : decode cX12_meanLevel 4 = .ok (.i2d, 1) := by decide +kernel
theorem dX12_meanLevel_5 : decode cX12_meanLevel 5 = .ok (.dstore_n 1, 1) := by decide +kernel
theorem dX12_meanLevel_6 : decode cX12_meanLevel 6 = .ok (.aload_n 0, 1) := by decide +kernel
theorem dX12_meanLevel_7 : decode cX12_meanLevel 7 = .ok (.invokevirtual 186, 3) := by decide +kernel
theorem dX12_meanLevel_10 : decode cX12_meanLevel 10 = .ok (.invokevirtual 225, 3) := by decide +kernel
theorem dX12_meanLevel_13 : decode cX12_meanLevel 13 = .ok (.l2d, 1) := by decide +kernel
theorem dX12_meanLevel_14 : decode cX12_meanLevel 14 = .ok (.dload_n 1, 1) := by decide +kernel
theorem dX12_meanLevel_15 : decode cX12_meanLevel 15 = .ok (.ddiv, 1) := by decide +kernel
theorem dX12_meanLevel_16 : decode cX12_meanLevel 16 = .ok (.dreturn, 1) := by decide +kernel
theorem dX12_restShare_0 : decode cX12_restShare 0 = .ok (.aload_n 0, 1) := by decide +kernel
theorem dX12_restShare_1 : decode cX12_restShare 1 = .ok (.invokevirtual 257, 3) := by decide +kernel
theorem dX12_restShare_4 : decode cX12_restShare 4 = .ok (.i2f, 1) := by decide +kernel
theorem dX12_restShare_5 : decode cX12_restShare 5 = .ok (.fstore_n 1, 1) := by decide +kernel
theorem dX12_restShare_6 : decode cX12_restShare 6 = .ok (.aload_n 0, 1) := by decide +kernel
theorem dX12_restShare_7 : decode cX12_restShare 7 = .ok (.invokevirtual 186, 3) := by decide +kernel
theorem dX12_restShare_10 : decode cX12_restShare 10 = .ok (.invokevirtual 213, 3) := by decide +kernel
theorem dX12_restShare_13 : decode cX12_restShare 13 = .ok (.i2f, 1) := by decide +kernel
theorem dX12_restShare_14 : decode cX12_restShare 14 = .ok (.fload_n 1, 1) := by decide +kernel
theorem dX12_restShare_15 : decode cX12_restShare 15 = .ok (.fdiv, 1) := by decide +kernel
theorem dX12_restShare_16 : decode cX12_restShare 16 = .ok (.freturn, 1) := by decide +kernel
theorem dX12_tickCountToDivideBy_0 : decode cX12_tickCountToDivideBy 0 = .ok (.aload_n 0, 1) := by decide +kernel
theorem dX12_tickCountToDivideBy_1 : decode cX12_tickCountToDivideBy 1 = .ok (.getfield 12, 3) := by decide +kernel
theorem dX12_tickCountToDivideBy_4 : decode cX12_tickCountToDivideBy 4 = .ok (.getfield 167, 3) := by decide +kernel
theorem dX12_tickCountToDivideBy_7 : decode cX12_tickCountToDivideBy 7 = .ok (.invokevirtual 170, 3) := by decide +kernel
theorem dX12_tickCountToDivideBy_10 : decode cX12_tickCountToDivideBy 10 = .ok (.istore_n 1, 1) := by decide +kernel
theorem dX12_tickCountToDivideBy_11 : decode cX12_tickCountToDivideBy 11 = .ok (.iload_n 1, 1) := by decide +kernel
theorem dX12_tickCountToDivideBy_12 : decode cX12_tickCountToDivideBy 12 = .ok (.iconst 1, 1) := by decide +kernel
theorem dX12_tickCountToDivideBy_13 : decode cX12_tickCountToDivideBy 13 = .ok (.if_icmp .ge 14, 3) := by decide +kernel
theorem dX12_tickCountToDivideBy_16 : decode cX12_tickCountToDivideBy 16 = .ok (.new 260, 3) := by decide +kernel
theorem dX12_tickCountToDivideBy_19 : decode cX12_tickCountToDivideBy 19 = .ok (.dup, 1) := by decide +kernel
theorem dX12_tickCountToDivideBy_20 : decode cX12_tickCountToDivideBy 20 = .ok (.ldc_w 262, 3) := by decide +kernel
theorem dX12_tickCountToDivideBy_23 : decode cX12_tickCountToDivideBy 23 = .ok (.invokespecial 264, 3) := by decide +kernel
theorem dX12_tickCountToDivideBy_26 : decode cX12_tickCountToDivideBy 26 = .ok (.athrow, 1) := by decide +kernel
theorem dX12_tickCountToDivideBy_27 : decode cX12_tickCountToDivideBy 27 = .ok (.iload_n 1, 1) := by decide +kernel
theorem dX12_tickCountToDivideBy_28 : decode cX12_tickCountToDivideBy 28 = .ok (.ireturn, 1) := by decide +kernel
theorem dX12_quietestWindow_0 : decode cX12_quietestWindow 0 = .ok (.aload_n 0, 1) := by decide +kernel
theorem dX12_quietestWindow_1 : decode cX12_quietestWindow 1 = .ok (.iload_n 1, 1) := by decide +kernel
theorem dX12_quietestWindow_2 : decode cX12_quietestWindow 2 = .ok (.invokevirtual 265, 3) := by decide +kernel
theorem dX12_quietestWindow_5 : decode cX12_quietestWindow 5 = .ok (.invokestatic 119, 3) := by decide +kernel
theorem dX12_quietestWindow_8 : decode cX12_quietestWindow 8 = .ok (.aload_n 0, 1) := by decide +kernel
theorem dX12_quietestWindow_9 : decode cX12_quietestWindow 9 = .ok (.iload_n 1, 1) := by decide +kernel
theorem dX12_quietestWindow_10 : decode cX12_quietestWindow 10 = .ok (.invokevirtual 269, 3) := by decide +kernel
theorem dX12_quietestWindow_13 : decode cX12_quietestWindow 13 = .ok (.ireturn, 1) := by decide +kernel
theorem dX12_quietestWindowByTrial_0 : decode cX12_quietestWindowByTrial 0 = .ok (.aload_n 0, 1) := by decide +kernel
theorem dX12_quietestWindowByTrial_1 : decode cX12_quietestWindowByTrial 1 = .ok (.iload_n 1, 1) := by decide +kernel
theorem dX12_quietestWindowByTrial_2 : decode cX12_quietestWindowByTrial 2 = .ok (.invokevirtual 265, 3) := by decide +kernel
theorem dX12_quietestWindowByTrial_5 : decode cX12_quietestWindowByTrial 5 = .ok (.invokestatic 119, 3) := by decide +kernel
theorem dX12_quietestWindowByTrial_8 : decode cX12_quietestWindowByTrial 8 = .ok (.aload_n 0, 1) := by decide +kernel
theorem dX12_quietestWindowByTrial_9 : decode cX12_quietestWindowByTrial 9 = .ok (.iload_n 1, 1) := by decide +kernel
theorem dX12_quietestWindowByTrial_10 : decode cX12_quietestWindowByTrial 10 = .ok (.invokevirtual 272, 3) := by decide +kernel
theorem dX12_quietestWindowByTrial_13 : decode cX12_quietestWindowByTrial 13 = .ok (.ireturn, 1) := by decide +kernel
theorem dX12_windowFault_0 : decode cX12_windowFault 0 = .ok (.iload_n 1, 1) := by decide +kernel
theorem dX12_windowFault_1 : decode cX12_windowFault 1 = .ok (.iconst 1, 1) := by decide +kernel
theorem dX12_windowFault_2 : decode cX12_windowFault 2 = .ok (.if_icmp .ge 7, 3) := by decide +kernel
theorem dX12_windowFault_5 : decode cX12_windowFault 5 = .ok (.getstatic 143, 3) := by decide +kernel
theorem dX12_windowFault_8 : decode cX12_windowFault 8 = .ok (.areturn, 1) := by decide +kernel
theorem dX12_windowFault_9 : decode cX12_windowFault 9 = .ok (.iload_n 1, 1) := by decide +kernel
theorem dX12_windowFault_10 : decode cX12_windowFault 10 = .ok (.aload_n 0, 1) := by decide +kernel
theorem dX12_windowFault_11 : decode cX12_windowFault 11 = .ok (.getfield 12, 3) := by decide +kernel
theorem dX12_windowFault_14 : decode cX12_windowFault 14 = .ok (.getfield 167, 3) := by decide +kernel
theorem dX12_windowFault_17 : decode cX12_windowFault 17 = .ok (.invokevirtual 170, 3) := by decide +kernel
theorem dX12_windowFault_20 : decode cX12_windowFault 20 = .ok (.if_icmp .le 9, 3) := by decide +kernel
theorem dX12_windowFault_23 : decode cX12_windowFault 23 = .ok (.getstatic 159, 3) := by decide +kernel
theorem dX12_windowFault_26 : decode cX12_windowFault 26 = .ok (.goto 6, 3) := by decide +kernel
theorem dX12_windowFault_29 : decode cX12_windowFault 29 = .ok (.getstatic 275, 3) := by decide +kernel
theorem dX12_windowFault_32 : decode cX12_windowFault 32 = .ok (.areturn, 1) := by decide +kernel
theorem dX12_windowByMoving_0 : decode cX12_windowByMoving 0 = .ok (.aload_n 0, 1) := by decide +kernel
theorem dX12_windowByMoving_1 : decode cX12_windowByMoving 1 = .ok (.getfield 12, 3) := by decide +kernel
theorem dX12_windowByMoving_4 : decode cX12_windowByMoving 4 = .ok (.getfield 167, 3) := by decide +kernel
theorem dX12_windowByMoving_7 : decode cX12_windowByMoving 7 = .ok (.astore_n 2, 1) := by decide +kernel
theorem dX12_windowByMoving_8 : decode cX12_windowByMoving 8 = .ok (.aload_n 2, 1) := by decide +kernel
theorem dX12_windowByMoving_9 : decode cX12_windowByMoving 9 = .ok (.iconst 0, 1) := by decide +kernel
theorem dX12_windowByMoving_10 : decode cX12_windowByMoving 10 = .ok (.iload_n 1, 1) := by decide +kernel
theorem dX12_windowByMoving_11 : decode cX12_windowByMoving 11 = .ok (.invokevirtual 233, 3) := by decide +kernel
theorem dX12_windowByMoving_14 : decode cX12_windowByMoving 14 = .ok (.istore_n 3, 1) := by decide +kernel
theorem dX12_windowByMoving_15 : decode cX12_windowByMoving 15 = .ok (.iload_n 3, 1) := by decide +kernel
theorem dX12_windowByMoving_16 : decode cX12_windowByMoving 16 = .ok (.istore 4, 2) := by decide +kernel
theorem dX12_windowByMoving_18 : decode cX12_windowByMoving 18 = .ok (.iconst 0, 1) := by decide +kernel
theorem dX12_windowByMoving_19 : decode cX12_windowByMoving 19 = .ok (.istore 5, 2) := by decide +kernel
theorem dX12_windowByMoving_21 : decode cX12_windowByMoving 21 = .ok (.iconst 1, 1) := by decide +kernel
theorem dX12_windowByMoving_22 : decode cX12_windowByMoving 22 = .ok (.istore 6, 2) := by decide +kernel
theorem dX12_windowByMoving_24 : decode cX12_windowByMoving 24 = .ok (.iload 6, 2) := by decide +kernel
theorem dX12_windowByMoving_26 : decode cX12_windowByMoving 26 = .ok (.aload_n 2, 1) := by decide +kernel
theorem dX12_windowByMoving_27 : decode cX12_windowByMoving 27 = .ok (.invokevirtual 170, 3) := by decide +kernel
theorem dX12_windowByMoving_30 : decode cX12_windowByMoving 30 = .ok (.iload_n 1, 1) := by decide +kernel
theorem dX12_windowByMoving_31 : decode cX12_windowByMoving 31 = .ok (.isub, 1) := by decide +kernel
theorem dX12_windowByMoving_32 : decode cX12_windowByMoving 32 = .ok (.if_icmp .gt 44, 3) := by decide +kernel
theorem dX12_windowByMoving_35 : decode cX12_windowByMoving 35 = .ok (.iload_n 3, 1) := by decide +kernel
theorem dX12_windowByMoving_36 : decode cX12_windowByMoving 36 = .ok (.aload_n 2, 1) := by decide +kernel
theorem dX12_windowByMoving_37 : decode cX12_windowByMoving 37 = .ok (.iload 6, 2) := by decide +kernel
theorem dX12_windowByMoving_39 : decode cX12_windowByMoving 39 = .ok (.iload_n 1, 1) := by decide +kernel
theorem dX12_windowByMoving_40 : decode cX12_windowByMoving 40 = .ok (.iadd, 1) := by decide +kernel
theorem dX12_windowByMoving_41 : decode cX12_windowByMoving 41 = .ok (.iconst 1, 1) := by decide +kernel
theorem dX12_windowByMoving_42 : decode cX12_windowByMoving 42 = .ok (.isub, 1) := by decide +kernel
theorem dX12_windowByMoving_43 : decode cX12_windowByMoving 43 = .ok (.invokevirtual 182, 3) := by decide +kernel
theorem dX12_windowByMoving_46 : decode cX12_windowByMoving 46 = .ok (.aload_n 2, 1) := by decide +kernel
theorem dX12_windowByMoving_47 : decode cX12_windowByMoving 47 = .ok (.iload 6, 2) := by decide +kernel
theorem dX12_windowByMoving_49 : decode cX12_windowByMoving 49 = .ok (.iconst 1, 1) := by decide +kernel
theorem dX12_windowByMoving_50 : decode cX12_windowByMoving 50 = .ok (.isub, 1) := by decide +kernel
theorem dX12_windowByMoving_51 : decode cX12_windowByMoving 51 = .ok (.invokevirtual 182, 3) := by decide +kernel
theorem dX12_windowByMoving_54 : decode cX12_windowByMoving 54 = .ok (.isub, 1) := by decide +kernel
theorem dX12_windowByMoving_55 : decode cX12_windowByMoving 55 = .ok (.iadd, 1) := by decide +kernel
theorem dX12_windowByMoving_56 : decode cX12_windowByMoving 56 = .ok (.istore_n 3, 1) := by decide +kernel
theorem dX12_windowByMoving_57 : decode cX12_windowByMoving 57 = .ok (.iload_n 3, 1) := by decide +kernel
theorem dX12_windowByMoving_58 : decode cX12_windowByMoving 58 = .ok (.iload 4, 2) := by decide +kernel
theorem dX12_windowByMoving_60 : decode cX12_windowByMoving 60 = .ok (.if_icmp .ge 10, 3) := by decide +kernel
theorem dX12_windowByMoving_63 : decode cX12_windowByMoving 63 = .ok (.iload_n 3, 1) := by decide +kernel
theorem dX12_windowByMoving_64 : decode cX12_windowByMoving 64 = .ok (.istore 4, 2) := by decide +kernel
theorem dX12_windowByMoving_66 : decode cX12_windowByMoving 66 = .ok (.iload 6, 2) := by decide +kernel
theorem dX12_windowByMoving_68 : decode cX12_windowByMoving 68 = .ok (.istore 5, 2) := by decide +kernel
theorem dX12_windowByMoving_70 : decode cX12_windowByMoving 70 = .ok (.iinc 6 1, 3) := by decide +kernel
theorem dX12_windowByMoving_73 : decode cX12_windowByMoving 73 = .ok (.goto (-49), 3) := by decide +kernel
theorem dX12_windowByMoving_76 : decode cX12_windowByMoving 76 = .ok (.iload 5, 2) := by decide +kernel
theorem dX12_windowByMoving_78 : decode cX12_windowByMoving 78 = .ok (.ireturn, 1) := by decide +kernel
theorem dX12_windowByTrial_0 : decode cX12_windowByTrial 0 = .ok (.aload_n 0, 1) := by decide +kernel
theorem dX12_windowByTrial_1 : decode cX12_windowByTrial 1 = .ok (.getfield 12, 3) := by decide +kernel
theorem dX12_windowByTrial_4 : decode cX12_windowByTrial 4 = .ok (.getfield 167, 3) := by decide +kernel
theorem dX12_windowByTrial_7 : decode cX12_windowByTrial 7 = .ok (.astore_n 2, 1) := by decide +kernel
theorem dX12_windowByTrial_8 : decode cX12_windowByTrial 8 = .ok (.aload_n 2, 1) := by decide +kernel
theorem dX12_windowByTrial_9 : decode cX12_windowByTrial 9 = .ok (.iconst 0, 1) := by decide +kernel
theorem dX12_windowByTrial_10 : decode cX12_windowByTrial 10 = .ok (.iload_n 1, 1) := by decide +kernel
theorem dX12_windowByTrial_11 : decode cX12_windowByTrial 11 = .ok (.invokevirtual 233, 3) := by decide +kernel
theorem dX12_windowByTrial_14 : decode cX12_windowByTrial 14 = .ok (.istore_n 3, 1) := by decide +kernel
theorem dX12_windowByTrial_15 : decode cX12_windowByTrial 15 = .ok (.iconst 0, 1) := by decide +kernel
theorem dX12_windowByTrial_16 : decode cX12_windowByTrial 16 = .ok (.istore 4, 2) := by decide +kernel
theorem dX12_windowByTrial_18 : decode cX12_windowByTrial 18 = .ok (.iconst 1, 1) := by decide +kernel
theorem dX12_windowByTrial_19 : decode cX12_windowByTrial 19 = .ok (.istore 5, 2) := by decide +kernel
theorem dX12_windowByTrial_21 : decode cX12_windowByTrial 21 = .ok (.iload 5, 2) := by decide +kernel
theorem dX12_windowByTrial_23 : decode cX12_windowByTrial 23 = .ok (.aload_n 2, 1) := by decide +kernel
theorem dX12_windowByTrial_24 : decode cX12_windowByTrial 24 = .ok (.invokevirtual 170, 3) := by decide +kernel
theorem dX12_windowByTrial_27 : decode cX12_windowByTrial 27 = .ok (.iload_n 1, 1) := by decide +kernel
theorem dX12_windowByTrial_28 : decode cX12_windowByTrial 28 = .ok (.isub, 1) := by decide +kernel
theorem dX12_windowByTrial_29 : decode cX12_windowByTrial 29 = .ok (.if_icmp .gt 34, 3) := by decide +kernel
theorem dX12_windowByTrial_32 : decode cX12_windowByTrial 32 = .ok (.aload_n 2, 1) := by decide +kernel
theorem dX12_windowByTrial_33 : decode cX12_windowByTrial 33 = .ok (.iload 5, 2) := by decide +kernel
theorem dX12_windowByTrial_35 : decode cX12_windowByTrial 35 = .ok (.iload 5, 2) := by decide +kernel
theorem dX12_windowByTrial_37 : decode cX12_windowByTrial 37 = .ok (.iload_n 1, 1) := by decide +kernel
theorem dX12_windowByTrial_38 : decode cX12_windowByTrial 38 = .ok (.iadd, 1) := by decide +kernel
theorem dX12_windowByTrial_39 : decode cX12_windowByTrial 39 = .ok (.invokevirtual 233, 3) := by decide +kernel
theorem dX12_windowByTrial_42 : decode cX12_windowByTrial 42 = .ok (.istore 6, 2) := by decide +kernel
theorem dX12_windowByTrial_44 : decode cX12_windowByTrial 44 = .ok (.iload 6, 2) := by decide +kernel
theorem dX12_windowByTrial_46 : decode cX12_windowByTrial 46 = .ok (.iload_n 3, 1) := by decide +kernel
theorem dX12_windowByTrial_47 : decode cX12_windowByTrial 47 = .ok (.if_icmp .ge 10, 3) := by decide +kernel
theorem dX12_windowByTrial_50 : decode cX12_windowByTrial 50 = .ok (.iload 6, 2) := by decide +kernel
theorem dX12_windowByTrial_52 : decode cX12_windowByTrial 52 = .ok (.istore_n 3, 1) := by decide +kernel
theorem dX12_windowByTrial_53 : decode cX12_windowByTrial 53 = .ok (.iload 5, 2) := by decide +kernel
theorem dX12_windowByTrial_55 : decode cX12_windowByTrial 55 = .ok (.istore 4, 2) := by decide +kernel
theorem dX12_windowByTrial_57 : decode cX12_windowByTrial 57 = .ok (.iinc 5 1, 3) := by decide +kernel
theorem dX12_windowByTrial_60 : decode cX12_windowByTrial 60 = .ok (.goto (-39), 3) := by decide +kernel
theorem dX12_windowByTrial_63 : decode cX12_windowByTrial 63 = .ok (.iload 4, 2) := by decide +kernel
theorem dX12_windowByTrial_65 : decode cX12_windowByTrial 65 = .ok (.ireturn, 1) := by decide +kernel
theorem dX12_period_0 : decode cX12_period 0 = .ok (.aload_n 0, 1) := by decide +kernel
theorem dX12_period_1 : decode cX12_period 1 = .ok (.getfield 12, 3) := by decide +kernel
theorem dX12_period_4 : decode cX12_period 4 = .ok (.getfield 167, 3) := by decide +kernel
theorem dX12_period_7 : decode cX12_period 7 = .ok (.invokevirtual 170, 3) := by decide +kernel
theorem dX12_period_10 : decode cX12_period 10 = .ok (.ifCond .le 7, 3) := by decide +kernel
theorem dX12_period_13 : decode cX12_period 13 = .ok (.iconst 1, 1) := by decide +kernel
theorem dX12_period_14 : decode cX12_period 14 = .ok (.goto 4, 3) := by decide +kernel
theorem dX12_period_17 : decode cX12_period 17 = .ok (.iconst 0, 1) := by decide +kernel
theorem dX12_period_18 : decode cX12_period 18 = .ok (.getstatic 159, 3) := by decide +kernel
theorem dX12_period_21 : decode cX12_period 21 = .ok (.invokestatic 178, 3) := by decide +kernel
theorem dX12_period_24 : decode cX12_period 24 = .ok (.aload_n 0, 1) := by decide +kernel
theorem dX12_period_25 : decode cX12_period 25 = .ok (.invokevirtual 278, 3) := by decide +kernel
theorem dX12_period_28 : decode cX12_period 28 = .ok (.ireturn, 1) := by decide +kernel
theorem dX12_periodByTrial_0 : decode cX12_periodByTrial 0 = .ok (.aload_n 0, 1) := by decide +kernel
theorem dX12_periodByTrial_1 : decode cX12_periodByTrial 1 = .ok (.getfield 12, 3) := by decide +kernel
theorem dX12_periodByTrial_4 : decode cX12_periodByTrial 4 = .ok (.getfield 167, 3) := by decide +kernel
theorem dX12_periodByTrial_7 : decode cX12_periodByTrial 7 = .ok (.invokevirtual 170, 3) := by decide +kernel
theorem dX12_periodByTrial_10 : decode cX12_periodByTrial 10 = .ok (.ifCond .le 7, 3) := by decide +kernel
theorem dX12_periodByTrial_13 : decode cX12_periodByTrial 13 = .ok (.iconst 1, 1) := by decide +kernel
theorem dX12_periodByTrial_14 : decode cX12_periodByTrial 14 = .ok (.goto 4, 3) := by decide +kernel
theorem dX12_periodByTrial_17 : decode cX12_periodByTrial 17 = .ok (.iconst 0, 1) := by decide +kernel
theorem dX12_periodByTrial_18 : decode cX12_periodByTrial 18 = .ok (.getstatic 159, 3) := by decide +kernel
theorem dX12_periodByTrial_21 : decode cX12_periodByTrial 21 = .ok (.invokestatic 178, 3) := by decide +kernel
theorem dX12_periodByTrial_24 : decode cX12_periodByTrial 24 = .ok (.aload_n 0, 1) := by decide +kernel
theorem dX12_periodByTrial_25 : decode cX12_periodByTrial 25 = .ok (.invokevirtual 281, 3) := by decide +kernel
theorem dX12_periodByTrial_28 : decode cX12_periodByTrial 28 = .ok (.ireturn, 1) := by decide +kernel
theorem dX12_periodByFailureFunction_0 : decode cX12_periodByFailureFunction 0 = .ok (.aload_n 0, 1) := by decide +kernel
theorem dX12_periodByFailureFunction_1 : decode cX12_periodByFailureFunction 1 = .ok (.getfield 12, 3) := by decide +kernel
theorem dX12_periodByFailureFunction_4 : decode cX12_periodByFailureFunction 4 = .ok (.getfield 167, 3) := by decide +kernel
theorem dX12_periodByFailureFunction_7 : decode cX12_periodByFailureFunction 7 = .ok (.invokevirtual 170, 3) := by decide +kernel
theorem dX12_periodByFailureFunction_10 : decode cX12_periodByFailureFunction 10 = .ok (.istore_n 1, 1) := by decide +kernel
theorem dX12_periodByFailureFunction_11 : decode cX12_periodByFailureFunction 11 = .ok (.aload_n 0, 1) := by decide +kernel
theorem dX12_periodByFailureFunction_12 : decode cX12_periodByFailureFunction 12 = .ok (.iconst 0, 1) := by decide +kernel
theorem dX12_periodByFailureFunction_13 : decode cX12_periodByFailureFunction 13 = .ok (.iconst 0, 1) := by decide +kernel
theorem dX12_periodByFailureFunction_14 : decode cX12_periodByFailureFunction 14 = .ok (.invokevirtual 284, 3) := by decide +kernel
theorem dX12_periodByFailureFunction_17 : decode cX12_periodByFailureFunction 17 = .ok (.iconst 0, 1) := by decide +kernel
theorem dX12_periodByFailureFunction_18 : decode cX12_periodByFailureFunction 18 = .ok (.istore_n 2, 1) := by decide +kernel
theorem dX12_periodByFailureFunction_19 : decode cX12_periodByFailureFunction 19 = .ok (.iconst 1, 1) := by decide +kernel
theorem dX12_periodByFailureFunction_20 : decode cX12_periodByFailureFunction 20 = .ok (.istore_n 3, 1) := by decide +kernel
theorem dX12_periodByFailureFunction_21 : decode cX12_periodByFailureFunction 21 = .ok (.iload_n 3, 1) := by decide +kernel
theorem dX12_periodByFailureFunction_22 : decode cX12_periodByFailureFunction 22 = .ok (.iload_n 1, 1) := by decide +kernel
theorem dX12_periodByFailureFunction_23 : decode cX12_periodByFailureFunction 23 = .ok (.if_icmp .ge 22, 3) := by decide +kernel
theorem dX12_periodByFailureFunction_26 : decode cX12_periodByFailureFunction 26 = .ok (.aload_n 0, 1) := by decide +kernel
theorem dX12_periodByFailureFunction_27 : decode cX12_periodByFailureFunction 27 = .ok (.iload_n 3, 1) := by decide +kernel
theorem dX12_periodByFailureFunction_28 : decode cX12_periodByFailureFunction 28 = .ok (.iload_n 2, 1) := by decide +kernel
theorem dX12_periodByFailureFunction_29 : decode cX12_periodByFailureFunction 29 = .ok (.invokevirtual 288, 3) := by decide +kernel
theorem dX12_periodByFailureFunction_32 : decode cX12_periodByFailureFunction 32 = .ok (.istore_n 2, 1) := by decide +kernel
theorem dX12_periodByFailureFunction_33 : decode cX12_periodByFailureFunction 33 = .ok (.aload_n 0, 1) := by decide +kernel
theorem dX12_periodByFailureFunction_34 : decode cX12_periodByFailureFunction 34 = .ok (.iload_n 3, 1) := by decide +kernel
theorem dX12_periodByFailureFunction_35 : decode cX12_periodByFailureFunction 35 = .ok (.iload_n 2, 1) := by decide +kernel
theorem dX12_periodByFailureFunction_36 : decode cX12_periodByFailureFunction 36 = .ok (.invokevirtual 284, 3) := by decide +kernel
theorem dX12_periodByFailureFunction_39 : decode cX12_periodByFailureFunction 39 = .ok (.iinc 3 1, 3) := by decide +kernel
theorem dX12_periodByFailureFunction_42 : decode cX12_periodByFailureFunction 42 = .ok (.goto (-21), 3) := by decide +kernel
theorem dX12_periodByFailureFunction_45 : decode cX12_periodByFailureFunction 45 = .ok (.iload_n 1, 1) := by decide +kernel
theorem dX12_periodByFailureFunction_46 : decode cX12_periodByFailureFunction 46 = .ok (.iload_n 2, 1) := by decide +kernel
theorem dX12_periodByFailureFunction_47 : decode cX12_periodByFailureFunction 47 = .ok (.isub, 1) := by decide +kernel
theorem dX12_periodByFailureFunction_48 : decode cX12_periodByFailureFunction 48 = .ok (.ireturn, 1) := by decide +kernel
theorem dX12_matchedAt_0 : decode cX12_matchedAt 0 = .ok (.aload_n 0, 1) := by decide +kernel
theorem dX12_matchedAt_1 : decode cX12_matchedAt 1 = .ok (.getfield 12, 3) := by decide +kernel
theorem dX12_matchedAt_4 : decode cX12_matchedAt 4 = .ok (.getfield 167, 3) := by decide +kernel
theorem dX12_matchedAt_7 : decode cX12_matchedAt 7 = .ok (.astore_n 3, 1) := by decide +kernel
theorem dX12_matchedAt_8 : decode cX12_matchedAt 8 = .ok (.iload_n 2, 1) := by decide +kernel
theorem dX12_matchedAt_9 : decode cX12_matchedAt 9 = .ok (.istore 4, 2) := by decide +kernel
theorem dX12_matchedAt_11 : decode cX12_matchedAt 11 = .ok (.iload 4, 2) := by decide +kernel
theorem dX12_matchedAt_13 : decode cX12_matchedAt 13 = .ok (.ifCond .le 37, 3) := by decide +kernel
theorem dX12_matchedAt_16 : decode cX12_matchedAt 16 = .ok (.aload_n 3, 1) := by decide +kernel
theorem dX12_matchedAt_17 : decode cX12_matchedAt 17 = .ok (.iload_n 1, 1) := by decide +kernel
theorem dX12_matchedAt_18 : decode cX12_matchedAt 18 = .ok (.invokevirtual 182, 3) := by decide +kernel
theorem dX12_matchedAt_21 : decode cX12_matchedAt 21 = .ok (.aload_n 3, 1) := by decide +kernel
theorem dX12_matchedAt_22 : decode cX12_matchedAt 22 = .ok (.iload 4, 2) := by decide +kernel
theorem dX12_matchedAt_24 : decode cX12_matchedAt 24 = .ok (.invokevirtual 182, 3) := by decide +kernel
theorem dX12_matchedAt_27 : decode cX12_matchedAt 27 = .ok (.if_icmp .eq 23, 3) := by decide +kernel
theorem dX12_matchedAt_30 : decode cX12_matchedAt 30 = .ok (.aload_n 0, 1) := by decide +kernel
theorem dX12_matchedAt_31 : decode cX12_matchedAt 31 = .ok (.iload 4, 2) := by decide +kernel
theorem dX12_matchedAt_33 : decode cX12_matchedAt 33 = .ok (.iconst 1, 1) := by decide +kernel
theorem dX12_matchedAt_34 : decode cX12_matchedAt 34 = .ok (.isub, 1) := by decide +kernel
theorem dX12_matchedAt_35 : decode cX12_matchedAt 35 = .ok (.invokevirtual 291, 3) := by decide +kernel
theorem dX12_matchedAt_38 : decode cX12_matchedAt 38 = .ok (.iload 4, 2) := by decide +kernel
theorem dX12_matchedAt_40 : decode cX12_matchedAt 40 = .ok (.iconst 1, 1) := by decide +kernel
theorem dX12_matchedAt_41 : decode cX12_matchedAt 41 = .ok (.isub, 1) := by decide +kernel
theorem dX12_matchedAt_42 : decode cX12_matchedAt 42 = .ok (.invokestatic 294, 3) := by decide +kernel
theorem dX12_matchedAt_45 : decode cX12_matchedAt 45 = .ok (.istore 4, 2) := by decide +kernel
theorem dX12_matchedAt_47 : decode cX12_matchedAt 47 = .ok (.goto (-36), 3) := by decide +kernel
theorem dX12_matchedAt_50 : decode cX12_matchedAt 50 = .ok (.aload_n 3, 1) := by decide +kernel
theorem dX12_matchedAt_51 : decode cX12_matchedAt 51 = .ok (.iload_n 1, 1) := by decide +kernel
theorem dX12_matchedAt_52 : decode cX12_matchedAt 52 = .ok (.invokevirtual 182, 3) := by decide +kernel
theorem dX12_matchedAt_55 : decode cX12_matchedAt 55 = .ok (.aload_n 3, 1) := by decide +kernel
theorem dX12_matchedAt_56 : decode cX12_matchedAt 56 = .ok (.iload 4, 2) := by decide +kernel
theorem dX12_matchedAt_58 : decode cX12_matchedAt 58 = .ok (.invokevirtual 182, 3) := by decide +kernel
theorem dX12_matchedAt_61 : decode cX12_matchedAt 61 = .ok (.if_icmp .ne 10, 3) := by decide +kernel
theorem dX12_matchedAt_64 : decode cX12_matchedAt 64 = .ok (.iload 4, 2) := by decide +kernel
theorem dX12_matchedAt_66 : decode cX12_matchedAt 66 = .ok (.iconst 1, 1) := by decide +kernel
theorem dX12_matchedAt_67 : decode cX12_matchedAt 67 = .ok (.iadd, 1) := by decide +kernel
theorem dX12_matchedAt_68 : decode cX12_matchedAt 68 = .ok (.goto 4, 3) := by decide +kernel
theorem dX12_matchedAt_71 : decode cX12_matchedAt 71 = .ok (.iconst 0, 1) := by decide +kernel
theorem dX12_matchedAt_72 : decode cX12_matchedAt 72 = .ok (.ireturn, 1) := by decide +kernel
theorem dX12_failureAt_0 : decode cX12_failureAt 0 = .ok (.iload_n 1, 1) := by decide +kernel
theorem dX12_failureAt_1 : decode cX12_failureAt 1 = .ok (.ifCond .lt 21, 3) := by decide +kernel
theorem dX12_failureAt_4 : decode cX12_failureAt 4 = .ok (.iload_n 1, 1) := by decide +kernel
theorem dX12_failureAt_5 : decode cX12_failureAt 5 = .ok (.aload_n 0, 1) := by decide +kernel
theorem dX12_failureAt_6 : decode cX12_failureAt 6 = .ok (.getfield 36, 3) := by decide +kernel
theorem dX12_failureAt_9 : decode cX12_failureAt 9 = .ok (.arraylength, 1) := by decide +kernel
theorem dX12_failureAt_10 : decode cX12_failureAt 10 = .ok (.if_icmp .ge 12, 3) := by decide +kernel
theorem dX12_failureAt_13 : decode cX12_failureAt 13 = .ok (.aload_n 0, 1) := by decide +kernel
theorem dX12_failureAt_14 : decode cX12_failureAt 14 = .ok (.getfield 36, 3) := by decide +kernel
theorem dX12_failureAt_17 : decode cX12_failureAt 17 = .ok (.iload_n 1, 1) := by decide +kernel
theorem dX12_failureAt_18 : decode cX12_failureAt 18 = .ok (.iaload, 1) := by decide +kernel
theorem dX12_failureAt_19 : decode cX12_failureAt 19 = .ok (.goto 4, 3) := by decide +kernel
theorem dX12_failureAt_22 : decode cX12_failureAt 22 = .ok (.iconst 0, 1) := by decide +kernel
theorem dX12_failureAt_23 : decode cX12_failureAt 23 = .ok (.ireturn, 1) := by decide +kernel
theorem dX12_setFailure_0 : decode cX12_setFailure 0 = .ok (.iload_n 1, 1) := by decide +kernel
theorem dX12_setFailure_1 : decode cX12_setFailure 1 = .ok (.ifCond .lt 19, 3) := by decide +kernel
theorem dX12_setFailure_4 : decode cX12_setFailure 4 = .ok (.iload_n 1, 1) := by decide +kernel
theorem dX12_setFailure_5 : decode cX12_setFailure 5 = .ok (.aload_n 0, 1) := by decide +kernel
theorem dX12_setFailure_6 : decode cX12_setFailure 6 = .ok (.getfield 36, 3) := by decide +kernel
theorem dX12_setFailure_9 : decode cX12_setFailure 9 = .ok (.arraylength, 1) := by decide +kernel
theorem dX12_setFailure_10 : decode cX12_setFailure 10 = .ok (.if_icmp .ge 10, 3) := by decide +kernel
theorem dX12_setFailure_13 : decode cX12_setFailure 13 = .ok (.aload_n 0, 1) := by decide +kernel
theorem dX12_setFailure_14 : decode cX12_setFailure 14 = .ok (.getfield 36, 3) := by decide +kernel
theorem dX12_setFailure_17 : decode cX12_setFailure 17 = .ok (.iload_n 1, 1) := by decide +kernel
theorem dX12_setFailure_18 : decode cX12_setFailure 18 = .ok (.iload_n 2, 1) := by decide +kernel
theorem dX12_setFailure_19 : decode cX12_setFailure 19 = .ok (.iastore, 1) := by decide +kernel
theorem dX12_setFailure_20 : decode cX12_setFailure 20 = .ok (.return_, 1) := by decide +kernel
theorem dX12_periodByTrying_0 : decode cX12_periodByTrying 0 = .ok (.aload_n 0, 1) := by decide +kernel
theorem dX12_periodByTrying_1 : decode cX12_periodByTrying 1 = .ok (.getfield 12, 3) := by decide +kernel
theorem dX12_periodByTrying_4 : decode cX12_periodByTrying 4 = .ok (.getfield 167, 3) := by decide +kernel
theorem dX12_periodByTrying_7 : decode cX12_periodByTrying 7 = .ok (.invokevirtual 170, 3) := by decide +kernel
theorem dX12_periodByTrying_10 : decode cX12_periodByTrying 10 = .ok (.istore_n 1, 1) := by decide +kernel
theorem dX12_periodByTrying_11 : decode cX12_periodByTrying 11 = .ok (.iconst 1, 1) := by decide +kernel
theorem dX12_periodByTrying_12 : decode cX12_periodByTrying 12 = .ok (.istore_n 2, 1) := by decide +kernel
theorem dX12_periodByTrying_13 : decode cX12_periodByTrying 13 = .ok (.iload_n 2, 1) := by decide +kernel
theorem dX12_periodByTrying_14 : decode cX12_periodByTrying 14 = .ok (.iload_n 1, 1) := by decide +kernel
theorem dX12_periodByTrying_15 : decode cX12_periodByTrying 15 = .ok (.if_icmp .ge 29, 3) := by decide +kernel
theorem dX12_periodByTrying_18 : decode cX12_periodByTrying 18 = .ok (.aload_n 0, 1) := by decide +kernel
theorem dX12_periodByTrying_19 : decode cX12_periodByTrying 19 = .ok (.getfield 12, 3) := by decide +kernel
theorem dX12_periodByTrying_22 : decode cX12_periodByTrying 22 = .ok (.getfield 167, 3) := by decide +kernel
theorem dX12_periodByTrying_25 : decode cX12_periodByTrying 25 = .ok (.iconst 0, 1) := by decide +kernel
theorem dX12_periodByTrying_26 : decode cX12_periodByTrying 26 = .ok (.iload_n 2, 1) := by decide +kernel
theorem dX12_periodByTrying_27 : decode cX12_periodByTrying 27 = .ok (.iload_n 1, 1) := by decide +kernel
theorem dX12_periodByTrying_28 : decode cX12_periodByTrying 28 = .ok (.iload_n 2, 1) := by decide +kernel
theorem dX12_periodByTrying_29 : decode cX12_periodByTrying 29 = .ok (.isub, 1) := by decide +kernel
theorem dX12_periodByTrying_30 : decode cX12_periodByTrying 30 = .ok (.invokevirtual 297, 3) := by decide +kernel
theorem dX12_periodByTrying_33 : decode cX12_periodByTrying 33 = .ok (.ifCond .eq 5, 3) := by decide +kernel
theorem dX12_periodByTrying_36 : decode cX12_periodByTrying 36 = .ok (.iload_n 2, 1) := by decide +kernel
theorem dX12_periodByTrying_37 : decode cX12_periodByTrying 37 = .ok (.ireturn, 1) := by decide +kernel
theorem dX12_periodByTrying_38 : decode cX12_periodByTrying 38 = .ok (.iinc 2 1, 3) := by decide +kernel
theorem dX12_periodByTrying_41 : decode cX12_periodByTrying 41 = .ok (.goto (-28), 3) := by decide +kernel
theorem dX12_periodByTrying_44 : decode cX12_periodByTrying 44 = .ok (.iload_n 1, 1) := by decide +kernel
theorem dX12_periodByTrying_45 : decode cX12_periodByTrying 45 = .ok (.ireturn, 1) := by decide +kernel
theorem dX12_markerCount_0 : decode cX12_markerCount 0 = .ok (.aload_n 0, 1) := by decide +kernel
theorem dX12_markerCount_1 : decode cX12_markerCount 1 = .ok (.getfield 12, 3) := by decide +kernel
theorem dX12_markerCount_4 : decode cX12_markerCount 4 = .ok (.getfield 301, 3) := by decide +kernel
theorem dX12_markerCount_7 : decode cX12_markerCount 7 = .ok (.invokevirtual 305, 3) := by decide +kernel
theorem dX12_markerCount_10 : decode cX12_markerCount 10 = .ok (.ireturn, 1) := by decide +kernel
theorem dX12_markerTime_0 : decode cX12_markerTime 0 = .ok (.iload_n 1, 1) := by decide +kernel
theorem dX12_markerTime_1 : decode cX12_markerTime 1 = .ok (.ifCond .lt 21, 3) := by decide +kernel
theorem dX12_markerTime_4 : decode cX12_markerTime 4 = .ok (.iload_n 1, 1) := by decide +kernel
theorem dX12_markerTime_5 : decode cX12_markerTime 5 = .ok (.aload_n 0, 1) := by decide +kernel
theorem dX12_markerTime_6 : decode cX12_markerTime 6 = .ok (.getfield 12, 3) := by decide +kernel
theorem dX12_markerTime_9 : decode cX12_markerTime 9 = .ok (.getfield 301, 3) := by decide +kernel
theorem dX12_markerTime_12 : decode cX12_markerTime 12 = .ok (.invokevirtual 305, 3) := by decide +kernel
theorem dX12_markerTime_15 : decode cX12_markerTime 15 = .ok (.if_icmp .ge 7, 3) := by decide +kernel
theorem dX12_markerTime_18 : decode cX12_markerTime 18 = .ok (.iconst 1, 1) := by decide +kernel
theorem dX12_markerTime_19 : decode cX12_markerTime 19 = .ok (.goto 4, 3) := by decide +kernel
theorem dX12_markerTime_22 : decode cX12_markerTime 22 = .ok (.iconst 0, 1) := by decide +kernel
theorem dX12_markerTime_23 : decode cX12_markerTime 23 = .ok (.getstatic 130, 3) := by decide +kernel
theorem dX12_markerTime_26 : decode cX12_markerTime 26 = .ok (.invokestatic 178, 3) := by decide +kernel
theorem dX12_markerTime_29 : decode cX12_markerTime 29 = .ok (.aload_n 0, 1) := by decide +kernel
theorem dX12_markerTime_30 : decode cX12_markerTime 30 = .ok (.getfield 12, 3) := by decide +kernel
theorem dX12_markerTime_33 : decode cX12_markerTime 33 = .ok (.getfield 301, 3) := by decide +kernel
theorem dX12_markerTime_36 : decode cX12_markerTime 36 = .ok (.iload_n 1, 1) := by decide +kernel
theorem dX12_markerTime_37 : decode cX12_markerTime 37 = .ok (.invokevirtual 308, 3) := by decide +kernel
theorem dX12_markerTime_40 : decode cX12_markerTime 40 = .ok (.ireturn, 1) := by decide +kernel
theorem dX12_barLength_0 : decode cX12_barLength 0 = .ok (.aload_n 0, 1) := by decide +kernel
theorem dX12_barLength_1 : decode cX12_barLength 1 = .ok (.getfield 12, 3) := by decide +kernel
theorem dX12_barLength_4 : decode cX12_barLength 4 = .ok (.iload_n 1, 1) := by decide +kernel
theorem dX12_barLength_5 : decode cX12_barLength 5 = .ok (.invokevirtual 309, 3) := by decide +kernel
theorem dX12_barLength_8 : decode cX12_barLength 8 = .ok (.getstatic 130, 3) := by decide +kernel
theorem dX12_barLength_11 : decode cX12_barLength 11 = .ok (.invokestatic 178, 3) := by decide +kernel
theorem dX12_barLength_14 : decode cX12_barLength 14 = .ok (.aload_n 0, 1) := by decide +kernel
theorem dX12_barLength_15 : decode cX12_barLength 15 = .ok (.getfield 12, 3) := by decide +kernel
theorem dX12_barLength_18 : decode cX12_barLength 18 = .ok (.iload_n 1, 1) := by decide +kernel
theorem dX12_barLength_19 : decode cX12_barLength 19 = .ok (.invokevirtual 312, 3) := by decide +kernel
theorem dX12_barLength_22 : decode cX12_barLength 22 = .ok (.ireturn, 1) := by decide +kernel
theorem dX12_barLoudness_0 : decode cX12_barLoudness 0 = .ok (.aload_n 0, 1) := by decide +kernel
theorem dX12_barLoudness_1 : decode cX12_barLoudness 1 = .ok (.getfield 12, 3) := by decide +kernel
theorem dX12_barLoudness_4 : decode cX12_barLoudness 4 = .ok (.iload_n 1, 1) := by decide +kernel
theorem dX12_barLoudness_5 : decode cX12_barLoudness 5 = .ok (.invokevirtual 309, 3) := by decide +kernel
theorem dX12_barLoudness_8 : decode cX12_barLoudness 8 = .ok (.getstatic 130, 3) := by decide +kernel
theorem dX12_barLoudness_11 : decode cX12_barLoudness 11 = .ok (.invokestatic 178, 3) := by decide +kernel
theorem dX12_barLoudness_14 : decode cX12_barLoudness 14 = .ok (.aload_n 0, 1) := by decide +kernel
theorem dX12_barLoudness_15 : decode cX12_barLoudness 15 = .ok (.getfield 12, 3) := by decide +kernel
theorem dX12_barLoudness_18 : decode cX12_barLoudness 18 = .ok (.iload_n 1, 1) := by decide +kernel
theorem dX12_barLoudness_19 : decode cX12_barLoudness 19 = .ok (.invokevirtual 315, 3) := by decide +kernel
theorem dX12_barLoudness_22 : decode cX12_barLoudness 22 = .ok (.ireturn, 1) := by decide +kernel
theorem dX12_loudestBar_0 : decode cX12_loudestBar 0 = .ok (.iconst 0, 1) := by decide +kernel
theorem dX12_loudestBar_1 : decode cX12_loudestBar 1 = .ok (.istore_n 1, 1) := by decide +kernel
theorem dX12_loudestBar_2 : decode cX12_loudestBar 2 = .ok (.iconst 1, 1) := by decide +kernel
theorem dX12_loudestBar_3 : decode cX12_loudestBar 3 = .ok (.istore_n 2, 1) := by decide +kernel
theorem dX12_loudestBar_4 : decode cX12_loudestBar 4 = .ok (.iload_n 2, 1) := by decide +kernel
theorem dX12_loudestBar_5 : decode cX12_loudestBar 5 = .ok (.aload_n 0, 1) := by decide +kernel
theorem dX12_loudestBar_6 : decode cX12_loudestBar 6 = .ok (.getfield 12, 3) := by decide +kernel
theorem dX12_loudestBar_9 : decode cX12_loudestBar 9 = .ok (.getfield 301, 3) := by decide +kernel
theorem dX12_loudestBar_12 : decode cX12_loudestBar 12 = .ok (.invokevirtual 305, 3) := by decide +kernel
theorem dX12_loudestBar_15 : decode cX12_loudestBar 15 = .ok (.if_icmp .gt 20, 3) := by decide +kernel
theorem dX12_loudestBar_18 : decode cX12_loudestBar 18 = .ok (.aload_n 0, 1) := by decide +kernel
theorem dX12_loudestBar_19 : decode cX12_loudestBar 19 = .ok (.iload_n 2, 1) := by decide +kernel
theorem dX12_loudestBar_20 : decode cX12_loudestBar 20 = .ok (.iload_n 1, 1) := by decide +kernel
theorem dX12_loudestBar_21 : decode cX12_loudestBar 21 = .ok (.invokevirtual 318, 3) := by decide +kernel
theorem dX12_loudestBar_24 : decode cX12_loudestBar 24 = .ok (.ifCond .eq 5, 3) := by decide +kernel
theorem dX12_loudestBar_27 : decode cX12_loudestBar 27 = .ok (.iload_n 2, 1) := by decide +kernel
theorem dX12_loudestBar_28 : decode cX12_loudestBar 28 = .ok (.istore_n 1, 1) := by decide +kernel
theorem dX12_loudestBar_29 : decode cX12_loudestBar 29 = .ok (.iinc 2 1, 3) := by decide +kernel
theorem dX12_loudestBar_32 : decode cX12_loudestBar 32 = .ok (.goto (-28), 3) := by decide +kernel
theorem dX12_loudestBar_35 : decode cX12_loudestBar 35 = .ok (.iload_n 1, 1) := by decide +kernel
theorem dX12_loudestBar_36 : decode cX12_loudestBar 36 = .ok (.ireturn, 1) := by decide +kernel
theorem dX12_isLouderOrLonger_0 : decode cX12_isLouderOrLonger 0 = .ok (.aload_n 0, 1) := by decide +kernel
theorem dX12_isLouderOrLonger_1 : decode cX12_isLouderOrLonger 1 = .ok (.getfield 12, 3) := by decide +kernel
theorem dX12_isLouderOrLonger_4 : decode cX12_isLouderOrLonger 4 = .ok (.iload_n 1, 1) := by decide +kernel
theorem dX12_isLouderOrLonger_5 : decode cX12_isLouderOrLonger 5 = .ok (.invokevirtual 315, 3) := by decide +kernel
theorem dX12_isLouderOrLonger_8 : decode cX12_isLouderOrLonger 8 = .ok (.istore_n 3, 1) := by decide +kernel
theorem dX12_isLouderOrLonger_9 : decode cX12_isLouderOrLonger 9 = .ok (.aload_n 0, 1) := by decide +kernel
theorem dX12_isLouderOrLonger_10 : decode cX12_isLouderOrLonger 10 = .ok (.getfield 12, 3) := by decide +kernel
theorem dX12_isLouderOrLonger_13 : decode cX12_isLouderOrLonger 13 = .ok (.iload_n 2, 1) := by decide +kernel
theorem dX12_isLouderOrLonger_14 : decode cX12_isLouderOrLonger 14 = .ok (.invokevirtual 315, 3) := by decide +kernel
theorem dX12_isLouderOrLonger_17 : decode cX12_isLouderOrLonger 17 = .ok (.istore 4, 2) := by decide +kernel
theorem dX12_isLouderOrLonger_19 : decode cX12_isLouderOrLonger 19 = .ok (.iload_n 3, 1) := by decide +kernel
theorem dX12_isLouderOrLonger_20 : decode cX12_isLouderOrLonger 20 = .ok (.iload 4, 2) := by decide +kernel
theorem dX12_isLouderOrLonger_22 : decode cX12_isLouderOrLonger 22 = .ok (.if_icmp .gt 28, 3) := by decide +kernel
theorem dX12_isLouderOrLonger_25 : decode cX12_isLouderOrLonger 25 = .ok (.iload_n 3, 1) := by decide +kernel
theorem dX12_isLouderOrLonger_26 : decode cX12_isLouderOrLonger 26 = .ok (.iload 4, 2) := by decide +kernel
theorem dX12_isLouderOrLonger_28 : decode cX12_isLouderOrLonger 28 = .ok (.if_icmp .ne 26, 3) := by decide +kernel
theorem dX12_isLouderOrLonger_31 : decode cX12_isLouderOrLonger 31 = .ok (.aload_n 0, 1) := by decide +kernel
theorem dX12_isLouderOrLonger_32 : decode cX12_isLouderOrLonger 32 = .ok (.getfield 12, 3) := by decide +kernel
theorem dX12_isLouderOrLonger_35 : decode cX12_isLouderOrLonger 35 = .ok (.iload_n 1, 1) := by decide +kernel
theorem dX12_isLouderOrLonger_36 : decode cX12_isLouderOrLonger 36 = .ok (.invokevirtual 312, 3) := by decide +kernel
theorem dX12_isLouderOrLonger_39 : decode cX12_isLouderOrLonger 39 = .ok (.aload_n 0, 1) := by decide +kernel
theorem dX12_isLouderOrLonger_40 : decode cX12_isLouderOrLonger 40 = .ok (.getfield 12, 3) := by decide +kernel
theorem dX12_isLouderOrLonger_43 : decode cX12_isLouderOrLonger 43 = .ok (.iload_n 2, 1) := by decide +kernel
theorem dX12_isLouderOrLonger_44 : decode cX12_isLouderOrLonger 44 = .ok (.invokevirtual 312, 3) := by decide +kernel
theorem dX12_isLouderOrLonger_47 : decode cX12_isLouderOrLonger 47 = .ok (.if_icmp .le 7, 3) := by decide +kernel
theorem dX12_isLouderOrLonger_50 : decode cX12_isLouderOrLonger 50 = .ok (.iconst 1, 1) := by decide +kernel
theorem dX12_isLouderOrLonger_51 : decode cX12_isLouderOrLonger 51 = .ok (.goto 4, 3) := by decide +kernel
theorem dX12_isLouderOrLonger_54 : decode cX12_isLouderOrLonger 54 = .ok (.iconst 0, 1) := by decide +kernel
theorem dX12_isLouderOrLonger_55 : decode cX12_isLouderOrLonger 55 = .ok (.ireturn, 1) := by decide +kernel
theorem dX12_areBarsEqual_0 : decode cX12_areBarsEqual 0 = .ok (.aload_n 0, 1) := by decide +kernel
theorem dX12_areBarsEqual_1 : decode cX12_areBarsEqual 1 = .ok (.getfield 12, 3) := by decide +kernel
theorem dX12_areBarsEqual_4 : decode cX12_areBarsEqual 4 = .ok (.iload_n 1, 1) := by decide +kernel
theorem dX12_areBarsEqual_5 : decode cX12_areBarsEqual 5 = .ok (.invokevirtual 309, 3) := by decide +kernel
theorem dX12_areBarsEqual_8 : decode cX12_areBarsEqual 8 = .ok (.ifCond .eq 18, 3) := by decide +kernel
theorem dX12_areBarsEqual_11 : decode cX12_areBarsEqual 11 = .ok (.aload_n 0, 1) := by decide +kernel
theorem dX12_areBarsEqual_12 : decode cX12_areBarsEqual 12 = .ok (.getfield 12, 3) := by decide +kernel
theorem dX12_areBarsEqual_15 : decode cX12_areBarsEqual 15 = .ok (.iload_n 2, 1) := by decide +kernel
theorem dX12_areBarsEqual_16 : decode cX12_areBarsEqual 16 = .ok (.invokevirtual 309, 3) := by decide +kernel
theorem dX12_areBarsEqual_19 : decode cX12_areBarsEqual 19 = .ok (.ifCond .eq 7, 3) := by decide +kernel
theorem dX12_areBarsEqual_22 : decode cX12_areBarsEqual 22 = .ok (.iconst 1, 1) := by decide +kernel
theorem dX12_areBarsEqual_23 : decode cX12_areBarsEqual 23 = .ok (.goto 4, 3) := by decide +kernel
theorem dX12_areBarsEqual_26 : decode cX12_areBarsEqual 26 = .ok (.iconst 0, 1) := by decide +kernel
theorem dX12_areBarsEqual_27 : decode cX12_areBarsEqual 27 = .ok (.getstatic 130, 3) := by decide +kernel
theorem dX12_areBarsEqual_30 : decode cX12_areBarsEqual 30 = .ok (.invokestatic 178, 3) := by decide +kernel
theorem dX12_areBarsEqual_33 : decode cX12_areBarsEqual 33 = .ok (.aload_n 0, 1) := by decide +kernel
theorem dX12_areBarsEqual_34 : decode cX12_areBarsEqual 34 = .ok (.getfield 12, 3) := by decide +kernel
theorem dX12_areBarsEqual_37 : decode cX12_areBarsEqual 37 = .ok (.iload_n 1, 1) := by decide +kernel
theorem dX12_areBarsEqual_38 : decode cX12_areBarsEqual 38 = .ok (.invokevirtual 312, 3) := by decide +kernel
theorem dX12_areBarsEqual_41 : decode cX12_areBarsEqual 41 = .ok (.istore_n 3, 1) := by decide +kernel
theorem dX12_areBarsEqual_42 : decode cX12_areBarsEqual 42 = .ok (.iload_n 3, 1) := by decide +kernel
theorem dX12_areBarsEqual_43 : decode cX12_areBarsEqual 43 = .ok (.aload_n 0, 1) := by decide +kernel
theorem dX12_areBarsEqual_44 : decode cX12_areBarsEqual 44 = .ok (.getfield 12, 3) := by decide +kernel
theorem dX12_areBarsEqual_47 : decode cX12_areBarsEqual 47 = .ok (.iload_n 2, 1) := by decide +kernel
theorem dX12_areBarsEqual_48 : decode cX12_areBarsEqual 48 = .ok (.invokevirtual 312, 3) := by decide +kernel
theorem dX12_areBarsEqual_51 : decode cX12_areBarsEqual 51 = .ok (.if_icmp .ne 37, 3) := by decide +kernel
theorem dX12_areBarsEqual_54 : decode cX12_areBarsEqual 54 = .ok (.aload_n 0, 1) := by decide +kernel
theorem dX12_areBarsEqual_55 : decode cX12_areBarsEqual 55 = .ok (.getfield 12, 3) := by decide +kernel
theorem dX12_areBarsEqual_58 : decode cX12_areBarsEqual 58 = .ok (.getfield 167, 3) := by decide +kernel
theorem dX12_areBarsEqual_61 : decode cX12_areBarsEqual 61 = .ok (.aload_n 0, 1) := by decide +kernel
theorem dX12_areBarsEqual_62 : decode cX12_areBarsEqual 62 = .ok (.getfield 12, 3) := by decide +kernel
theorem dX12_areBarsEqual_65 : decode cX12_areBarsEqual 65 = .ok (.iload_n 1, 1) := by decide +kernel
theorem dX12_areBarsEqual_66 : decode cX12_areBarsEqual 66 = .ok (.invokevirtual 322, 3) := by decide +kernel
theorem dX12_areBarsEqual_69 : decode cX12_areBarsEqual 69 = .ok (.aload_n 0, 1) := by decide +kernel
theorem dX12_areBarsEqual_70 : decode cX12_areBarsEqual 70 = .ok (.getfield 12, 3) := by decide +kernel
theorem dX12_areBarsEqual_73 : decode cX12_areBarsEqual 73 = .ok (.iload_n 2, 1) := by decide +kernel
theorem dX12_areBarsEqual_74 : decode cX12_areBarsEqual 74 = .ok (.invokevirtual 322, 3) := by decide +kernel
theorem dX12_areBarsEqual_77 : decode cX12_areBarsEqual 77 = .ok (.iload_n 3, 1) := by decide +kernel
theorem dX12_areBarsEqual_78 : decode cX12_areBarsEqual 78 = .ok (.invokevirtual 297, 3) := by decide +kernel
theorem dX12_areBarsEqual_81 : decode cX12_areBarsEqual 81 = .ok (.ifCond .eq 7, 3) := by decide +kernel
theorem dX12_areBarsEqual_84 : decode cX12_areBarsEqual 84 = .ok (.iconst 1, 1) := by decide +kernel
theorem dX12_areBarsEqual_85 : decode cX12_areBarsEqual 85 = .ok (.goto 4, 3) := by decide +kernel
theorem dX12_areBarsEqual_88 : decode cX12_areBarsEqual 88 = .ok (.iconst 0, 1) := by decide +kernel
theorem dX12_areBarsEqual_89 : decode cX12_areBarsEqual 89 = .ok (.ireturn, 1) := by decide +kernel
theorem dX12_clipboardLength_0 : decode cX12_clipboardLength 0 = .ok (.aload_n 0, 1) := by decide +kernel
theorem dX12_clipboardLength_1 : decode cX12_clipboardLength 1 = .ok (.getfield 12, 3) := by decide +kernel
theorem dX12_clipboardLength_4 : decode cX12_clipboardLength 4 = .ok (.getfield 325, 3) := by decide +kernel
theorem dX12_clipboardLength_7 : decode cX12_clipboardLength 7 = .ok (.invokevirtual 170, 3) := by decide +kernel
theorem dX12_clipboardLength_10 : decode cX12_clipboardLength 10 = .ok (.ireturn, 1) := by decide +kernel
theorem dX12_trainCount_0 : decode cX12_trainCount 0 = .ok (.aload_n 0, 1) := by decide +kernel
theorem dX12_trainCount_1 : decode cX12_trainCount 1 = .ok (.getfield 12, 3) := by decide +kernel
theorem dX12_trainCount_4 : decode cX12_trainCount 4 = .ok (.getfield 328, 3) := by decide +kernel
theorem dX12_trainCount_7 : decode cX12_trainCount 7 = .ok (.ireturn, 1) := by decide +kernel
theorem dX12_isConsistent_0 : decode cX12_isConsistent 0 = .ok (.aload_n 0, 1) := by decide +kernel
theorem dX12_isConsistent_1 : decode cX12_isConsistent 1 = .ok (.invokevirtual 331, 3) := by decide +kernel
theorem dX12_isConsistent_4 : decode cX12_isConsistent 4 = .ok (.ifCond .eq 43, 3) := by decide +kernel
theorem dX12_isConsistent_7 : decode cX12_isConsistent 7 = .ok (.aload_n 0, 1) := by decide +kernel
theorem dX12_isConsistent_8 : decode cX12_isConsistent 8 = .ok (.invokevirtual 335, 3) := by decide +kernel
theorem dX12_isConsistent_11 : decode cX12_isConsistent 11 = .ok (.aload_n 0, 1) := by decide +kernel
theorem dX12_isConsistent_12 : decode cX12_isConsistent 12 = .ok (.invokevirtual 338, 3) := by decide +kernel
theorem dX12_isConsistent_15 : decode cX12_isConsistent 15 = .ok (.lcmp, 1) := by decide +kernel
theorem dX12_isConsistent_16 : decode cX12_isConsistent 16 = .ok (.ifCond .ne 31, 3) := by decide +kernel
theorem dX12_isConsistent_19 : decode cX12_isConsistent 19 = .ok (.aload_n 0, 1) := by decide +kernel
theorem dX12_isConsistent_20 : decode cX12_isConsistent 20 = .ok (.invokevirtual 341, 3) := by decide +kernel
theorem dX12_isConsistent_23 : decode cX12_isConsistent 23 = .ok (.ifCond .eq 24, 3) := by decide +kernel
theorem dX12_isConsistent_26 : decode cX12_isConsistent 26 = .ok (.aload_n 0, 1) := by decide +kernel
theorem dX12_isConsistent_27 : decode cX12_isConsistent 27 = .ok (.invokevirtual 344, 3) := by decide +kernel
theorem dX12_isConsistent_30 : decode cX12_isConsistent 30 = .ok (.ifCond .eq 17, 3) := by decide +kernel
theorem dX12_isConsistent_33 : decode cX12_isConsistent 33 = .ok (.aload_n 0, 1) := by decide +kernel
theorem dX12_isConsistent_34 : decode cX12_isConsistent 34 = .ok (.invokevirtual 186, 3) := by decide +kernel
theorem dX12_isConsistent_37 : decode cX12_isConsistent 37 = .ok (.invokevirtual 347, 3) := by decide +kernel
theorem dX12_isConsistent_40 : decode cX12_isConsistent 40 = .ok (.ifCond .eq 7, 3) := by decide +kernel
theorem dX12_isConsistent_43 : decode cX12_isConsistent 43 = .ok (.iconst 1, 1) := by decide +kernel
theorem dX12_isConsistent_44 : decode cX12_isConsistent 44 = .ok (.goto 4, 3) := by decide +kernel
theorem dX12_isConsistent_47 : decode cX12_isConsistent 47 = .ok (.iconst 0, 1) := by decide +kernel
theorem dX12_isConsistent_48 : decode cX12_isConsistent 48 = .ok (.ireturn, 1) := by decide +kernel
theorem dX12_doTicksAddUp_0 : decode cX12_doTicksAddUp 0 = .ok (.aload_n 0, 1) := by decide +kernel
theorem dX12_doTicksAddUp_1 : decode cX12_doTicksAddUp 1 = .ok (.getfield 12, 3) := by decide +kernel
theorem dX12_doTicksAddUp_4 : decode cX12_doTicksAddUp 4 = .ok (.getfield 167, 3) := by decide +kernel
theorem dX12_doTicksAddUp_7 : decode cX12_doTicksAddUp 7 = .ok (.invokevirtual 170, 3) := by decide +kernel
theorem dX12_doTicksAddUp_10 : decode cX12_doTicksAddUp 10 = .ok (.aload_n 0, 1) := by decide +kernel
theorem dX12_doTicksAddUp_11 : decode cX12_doTicksAddUp 11 = .ok (.invokevirtual 350, 3) := by decide +kernel
theorem dX12_doTicksAddUp_14 : decode cX12_doTicksAddUp 14 = .ok (.aload_n 0, 1) := by decide +kernel
theorem dX12_doTicksAddUp_15 : decode cX12_doTicksAddUp 15 = .ok (.invokevirtual 353, 3) := by decide +kernel
theorem dX12_doTicksAddUp_18 : decode cX12_doTicksAddUp 18 = .ok (.iadd, 1) := by decide +kernel
theorem dX12_doTicksAddUp_19 : decode cX12_doTicksAddUp 19 = .ok (.if_icmp .ne 7, 3) := by decide +kernel
theorem dX12_doTicksAddUp_22 : decode cX12_doTicksAddUp 22 = .ok (.iconst 1, 1) := by decide +kernel
theorem dX12_doTicksAddUp_23 : decode cX12_doTicksAddUp 23 = .ok (.goto 4, 3) := by decide +kernel
theorem dX12_doTicksAddUp_26 : decode cX12_doTicksAddUp 26 = .ok (.iconst 0, 1) := by decide +kernel
theorem dX12_doTicksAddUp_27 : decode cX12_doTicksAddUp 27 = .ok (.ireturn, 1) := by decide +kernel
theorem dX12_doWindowsAgree_0 : decode cX12_doWindowsAgree 0 = .ok (.iconst 1, 1) := by decide +kernel
theorem dX12_doWindowsAgree_1 : decode cX12_doWindowsAgree 1 = .ok (.istore_n 1, 1) := by decide +kernel
theorem dX12_doWindowsAgree_2 : decode cX12_doWindowsAgree 2 = .ok (.iload_n 1, 1) := by decide +kernel
theorem dX12_doWindowsAgree_3 : decode cX12_doWindowsAgree 3 = .ok (.bipush 9, 2) := by decide +kernel
theorem dX12_doWindowsAgree_5 : decode cX12_doWindowsAgree 5 = .ok (.if_icmp .gt 38, 3) := by decide +kernel
theorem dX12_doWindowsAgree_8 : decode cX12_doWindowsAgree 8 = .ok (.iload_n 1, 1) := by decide +kernel
theorem dX12_doWindowsAgree_9 : decode cX12_doWindowsAgree 9 = .ok (.aload_n 0, 1) := by decide +kernel
theorem dX12_doWindowsAgree_10 : decode cX12_doWindowsAgree 10 = .ok (.getfield 12, 3) := by decide +kernel
theorem dX12_doWindowsAgree_13 : decode cX12_doWindowsAgree 13 = .ok (.getfield 167, 3) := by decide +kernel
theorem dX12_doWindowsAgree_16 : decode cX12_doWindowsAgree 16 = .ok (.invokevirtual 170, 3) := by decide +kernel
theorem dX12_doWindowsAgree_19 : decode cX12_doWindowsAgree 19 = .ok (.if_icmp .gt 24, 3) := by decide +kernel
theorem dX12_doWindowsAgree_22 : decode cX12_doWindowsAgree 22 = .ok (.aload_n 0, 1) := by decide +kernel
theorem dX12_doWindowsAgree_23 : decode cX12_doWindowsAgree 23 = .ok (.iload_n 1, 1) := by decide +kernel
theorem dX12_doWindowsAgree_24 : decode cX12_doWindowsAgree 24 = .ok (.invokevirtual 269, 3) := by decide +kernel
theorem dX12_doWindowsAgree_27 : decode cX12_doWindowsAgree 27 = .ok (.aload_n 0, 1) := by decide +kernel
theorem dX12_doWindowsAgree_28 : decode cX12_doWindowsAgree 28 = .ok (.iload_n 1, 1) := by decide +kernel
theorem dX12_doWindowsAgree_29 : decode cX12_doWindowsAgree 29 = .ok (.invokevirtual 272, 3) := by decide +kernel
theorem dX12_doWindowsAgree_32 : decode cX12_doWindowsAgree 32 = .ok (.if_icmp .eq 5, 3) := by decide +kernel
theorem dX12_doWindowsAgree_35 : decode cX12_doWindowsAgree 35 = .ok (.iconst 0, 1) := by decide +kernel
theorem dX12_doWindowsAgree_36 : decode cX12_doWindowsAgree 36 = .ok (.ireturn, 1) := by decide +kernel
theorem dX12_doWindowsAgree_37 : decode cX12_doWindowsAgree 37 = .ok (.iinc 1 1, 3) := by decide +kernel
theorem dX12_doWindowsAgree_40 : decode cX12_doWindowsAgree 40 = .ok (.goto (-38), 3) := by decide +kernel
theorem dX12_doWindowsAgree_43 : decode cX12_doWindowsAgree 43 = .ok (.iconst 1, 1) := by decide +kernel
theorem dX12_doWindowsAgree_44 : decode cX12_doWindowsAgree 44 = .ok (.ireturn, 1) := by decide +kernel
theorem dX12_doPeriodsAgree_0 : decode cX12_doPeriodsAgree 0 = .ok (.aload_n 0, 1) := by decide +kernel
theorem dX12_doPeriodsAgree_1 : decode cX12_doPeriodsAgree 1 = .ok (.getfield 12, 3) := by decide +kernel
theorem dX12_doPeriodsAgree_4 : decode cX12_doPeriodsAgree 4 = .ok (.getfield 167, 3) := by decide +kernel
theorem dX12_doPeriodsAgree_7 : decode cX12_doPeriodsAgree 7 = .ok (.invokevirtual 170, 3) := by decide +kernel
theorem dX12_doPeriodsAgree_10 : decode cX12_doPeriodsAgree 10 = .ok (.ifCond .eq 14, 3) := by decide +kernel
theorem dX12_doPeriodsAgree_13 : decode cX12_doPeriodsAgree 13 = .ok (.aload_n 0, 1) := by decide +kernel
theorem dX12_doPeriodsAgree_14 : decode cX12_doPeriodsAgree 14 = .ok (.invokevirtual 278, 3) := by decide +kernel
theorem dX12_doPeriodsAgree_17 : decode cX12_doPeriodsAgree 17 = .ok (.aload_n 0, 1) := by decide +kernel
theorem dX12_doPeriodsAgree_18 : decode cX12_doPeriodsAgree 18 = .ok (.invokevirtual 281, 3) := by decide +kernel
theorem dX12_doPeriodsAgree_21 : decode cX12_doPeriodsAgree 21 = .ok (.if_icmp .ne 7, 3) := by decide +kernel
theorem dX12_doPeriodsAgree_24 : decode cX12_doPeriodsAgree 24 = .ok (.iconst 1, 1) := by decide +kernel
theorem dX12_doPeriodsAgree_25 : decode cX12_doPeriodsAgree 25 = .ok (.goto 4, 3) := by decide +kernel
theorem dX12_doPeriodsAgree_28 : decode cX12_doPeriodsAgree 28 = .ok (.iconst 0, 1) := by decide +kernel
theorem dX12_doPeriodsAgree_29 : decode cX12_doPeriodsAgree 29 = .ok (.ireturn, 1) := by decide +kernel
theorem dX12_renderNotation_0 : decode cX12_renderNotation 0 = .ok (.aload_n 0, 1) := by decide +kernel
theorem dX12_renderNotation_1 : decode cX12_renderNotation 1 = .ok (.getfield 64, 3) := by decide +kernel
theorem dX12_renderNotation_4 : decode cX12_renderNotation 4 = .ok (.invokevirtual 356, 3) := by decide +kernel
theorem dX12_renderNotation_7 : decode cX12_renderNotation 7 = .ok (.aload_n 0, 1) := by decide +kernel
theorem dX12_renderNotation_8 : decode cX12_renderNotation 8 = .ok (.invokevirtual 186, 3) := by decide +kernel
theorem dX12_renderNotation_11 : decode cX12_renderNotation 11 = .ok (.astore_n 1, 1) := by decide +kernel
theorem dX12_renderNotation_12 : decode cX12_renderNotation 12 = .ok (.iconst 0, 1) := by decide +kernel
theorem dX12_renderNotation_13 : decode cX12_renderNotation 13 = .ok (.istore_n 2, 1) := by decide +kernel
theorem dX12_renderNotation_14 : decode cX12_renderNotation 14 = .ok (.iload_n 2, 1) := by decide +kernel
theorem dX12_renderNotation_15 : decode cX12_renderNotation 15 = .ok (.aload_n 1, 1) := by decide +kernel
theorem dX12_renderNotation_16 : decode cX12_renderNotation 16 = .ok (.invokevirtual 190, 3) := by decide +kernel
theorem dX12_renderNotation_19 : decode cX12_renderNotation 19 = .ok (.if_icmp .ge 36, 3) := by decide +kernel
theorem dX12_renderNotation_22 : decode cX12_renderNotation 22 = .ok (.iload_n 2, 1) := by decide +kernel
theorem dX12_renderNotation_23 : decode cX12_renderNotation 23 = .ok (.ifCond .le 12, 3) := by decide +kernel
theorem dX12_renderNotation_26 : decode cX12_renderNotation 26 = .ok (.aload_n 0, 1) := by decide +kernel
theorem dX12_renderNotation_27 : decode cX12_renderNotation 27 = .ok (.getfield 64, 3) := by decide +kernel
theorem dX12_renderNotation_30 : decode cX12_renderNotation 30 = .ok (.bipush 32, 2) := by decide +kernel
theorem dX12_renderNotation_32 : decode cX12_renderNotation 32 = .ok (.invokevirtual 359, 3) := by decide +kernel
theorem dX12_renderNotation_35 : decode cX12_renderNotation 35 = .ok (.aload_n 0, 1) := by decide +kernel
theorem dX12_renderNotation_36 : decode cX12_renderNotation 36 = .ok (.aload_n 1, 1) := by decide +kernel
theorem dX12_renderNotation_37 : decode cX12_renderNotation 37 = .ok (.iload_n 2, 1) := by decide +kernel
theorem dX12_renderNotation_38 : decode cX12_renderNotation 38 = .ok (.invokevirtual 203, 3) := by decide +kernel
theorem dX12_renderNotation_41 : decode cX12_renderNotation 41 = .ok (.aload_n 1, 1) := by decide +kernel
theorem dX12_renderNotation_42 : decode cX12_renderNotation 42 = .ok (.iload_n 2, 1) := by decide +kernel
theorem dX12_renderNotation_43 : decode cX12_renderNotation 43 = .ok (.invokevirtual 200, 3) := by decide +kernel
theorem dX12_renderNotation_46 : decode cX12_renderNotation 46 = .ok (.invokevirtual 363, 3) := by decide +kernel
theorem dX12_renderNotation_49 : decode cX12_renderNotation 49 = .ok (.iinc 2 1, 3) := by decide +kernel
theorem dX12_renderNotation_52 : decode cX12_renderNotation 52 = .ok (.goto (-38), 3) := by decide +kernel
theorem dX12_renderNotation_55 : decode cX12_renderNotation 55 = .ok (.aload_n 0, 1) := by decide +kernel
theorem dX12_renderNotation_56 : decode cX12_renderNotation 56 = .ok (.getfield 64, 3) := by decide +kernel
theorem dX12_renderNotation_59 : decode cX12_renderNotation 59 = .ok (.invokevirtual 366, 3) := by decide +kernel
theorem dX12_renderNotation_62 : decode cX12_renderNotation 62 = .ok (.ireturn, 1) := by decide +kernel
theorem dX12_renderRun_0 : decode cX12_renderRun 0 = .ok (.iload_n 1, 1) := by decide +kernel
theorem dX12_renderRun_1 : decode cX12_renderRun 1 = .ok (.ifCond .ne 15, 3) := by decide +kernel
theorem dX12_renderRun_4 : decode cX12_renderRun 4 = .ok (.aload_n 0, 1) := by decide +kernel
theorem dX12_renderRun_5 : decode cX12_renderRun 5 = .ok (.getfield 64, 3) := by decide +kernel
theorem dX12_renderRun_8 : decode cX12_renderRun 8 = .ok (.bipush 114, 2) := by decide +kernel
theorem dX12_renderRun_10 : decode cX12_renderRun 10 = .ok (.invokevirtual 359, 3) := by decide +kernel
theorem dX12_renderRun_13 : decode cX12_renderRun 13 = .ok (.goto 20, 3) := by decide +kernel
theorem dX12_renderRun_16 : decode cX12_renderRun 16 = .ok (.aload_n 0, 1) := by decide +kernel
theorem dX12_renderRun_17 : decode cX12_renderRun 17 = .ok (.getfield 64, 3) := by decide +kernel
theorem dX12_renderRun_20 : decode cX12_renderRun 20 = .ok (.bipush 104, 2) := by decide +kernel
theorem dX12_renderRun_22 : decode cX12_renderRun 22 = .ok (.invokevirtual 359, 3) := by decide +kernel
theorem dX12_renderRun_25 : decode cX12_renderRun 25 = .ok (.aload_n 0, 1) := by decide +kernel
theorem dX12_renderRun_26 : decode cX12_renderRun 26 = .ok (.getfield 64, 3) := by decide +kernel
theorem dX12_renderRun_29 : decode cX12_renderRun 29 = .ok (.iload_n 1, 1) := by decide +kernel
theorem dX12_renderRun_30 : decode cX12_renderRun 30 = .ok (.invokevirtual 369, 3) := by decide +kernel
theorem dX12_renderRun_33 : decode cX12_renderRun 33 = .ok (.aload_n 0, 1) := by decide +kernel
theorem dX12_renderRun_34 : decode cX12_renderRun 34 = .ok (.getfield 64, 3) := by decide +kernel
theorem dX12_renderRun_37 : decode cX12_renderRun 37 = .ok (.bipush 58, 2) := by decide +kernel
theorem dX12_renderRun_39 : decode cX12_renderRun 39 = .ok (.invokevirtual 359, 3) := by decide +kernel
theorem dX12_renderRun_42 : decode cX12_renderRun 42 = .ok (.aload_n 0, 1) := by decide +kernel
theorem dX12_renderRun_43 : decode cX12_renderRun 43 = .ok (.getfield 64, 3) := by decide +kernel
theorem dX12_renderRun_46 : decode cX12_renderRun 46 = .ok (.iload_n 2, 1) := by decide +kernel
theorem dX12_renderRun_47 : decode cX12_renderRun 47 = .ok (.invokevirtual 369, 3) := by decide +kernel
theorem dX12_renderRun_50 : decode cX12_renderRun 50 = .ok (.return_, 1) := by decide +kernel
theorem dX12_renderBars_0 : decode cX12_renderBars 0 = .ok (.aload_n 0, 1) := by decide +kernel
theorem dX12_renderBars_1 : decode cX12_renderBars 1 = .ok (.getfield 64, 3) := by decide +kernel
theorem dX12_renderBars_4 : decode cX12_renderBars 4 = .ok (.invokevirtual 356, 3) := by decide +kernel
theorem dX12_renderBars_7 : decode cX12_renderBars 7 = .ok (.iconst 0, 1) := by decide +kernel
theorem dX12_renderBars_8 : decode cX12_renderBars 8 = .ok (.istore_n 1, 1) := by decide +kernel
theorem dX12_renderBars_9 : decode cX12_renderBars 9 = .ok (.iload_n 1, 1) := by decide +kernel
theorem dX12_renderBars_10 : decode cX12_renderBars 10 = .ok (.aload_n 0, 1) := by decide +kernel
theorem dX12_renderBars_11 : decode cX12_renderBars 11 = .ok (.getfield 12, 3) := by decide +kernel
theorem dX12_renderBars_14 : decode cX12_renderBars 14 = .ok (.getfield 167, 3) := by decide +kernel
theorem dX12_renderBars_17 : decode cX12_renderBars 17 = .ok (.invokevirtual 170, 3) := by decide +kernel
theorem dX12_renderBars_20 : decode cX12_renderBars 20 = .ok (.if_icmp .gt 65, 3) := by decide +kernel
theorem dX12_renderBars_23 : decode cX12_renderBars 23 = .ok (.aload_n 0, 1) := by decide +kernel
theorem dX12_renderBars_24 : decode cX12_renderBars 24 = .ok (.getfield 12, 3) := by decide +kernel
theorem dX12_renderBars_27 : decode cX12_renderBars 27 = .ok (.getfield 301, 3) := by decide +kernel
theorem dX12_renderBars_30 : decode cX12_renderBars 30 = .ok (.iload_n 1, 1) := by decide +kernel
theorem dX12_renderBars_31 : decode cX12_renderBars 31 = .ok (.invokevirtual 373, 3) := by decide +kernel
theorem dX12_renderBars_34 : decode cX12_renderBars 34 = .ok (.iconst (-1), 1) := by decide +kernel
theorem dX12_renderBars_35 : decode cX12_renderBars 35 = .ok (.if_icmp .eq 12, 3) := by decide +kernel
theorem dX12_renderBars_38 : decode cX12_renderBars 38 = .ok (.aload_n 0, 1) := by decide +kernel
theorem dX12_renderBars_39 : decode cX12_renderBars 39 = .ok (.getfield 64, 3) := by decide +kernel
theorem dX12_renderBars_42 : decode cX12_renderBars 42 = .ok (.bipush 124, 2) := by decide +kernel
theorem dX12_renderBars_44 : decode cX12_renderBars 44 = .ok (.invokevirtual 359, 3) := by decide +kernel
theorem dX12_renderBars_47 : decode cX12_renderBars 47 = .ok (.aload_n 0, 1) := by decide +kernel
theorem dX12_renderBars_48 : decode cX12_renderBars 48 = .ok (.getfield 12, 3) := by decide +kernel
theorem dX12_renderBars_51 : decode cX12_renderBars 51 = .ok (.getfield 167, 3) := by decide +kernel
theorem dX12_renderBars_54 : decode cX12_renderBars 54 = .ok (.iload_n 1, 1) := by decide +kernel
theorem dX12_renderBars_55 : decode cX12_renderBars 55 = .ok (.invokevirtual 174, 3) := by decide +kernel
theorem dX12_renderBars_58 : decode cX12_renderBars 58 = .ok (.ifCond .eq 21, 3) := by decide +kernel
theorem dX12_renderBars_61 : decode cX12_renderBars 61 = .ok (.aload_n 0, 1) := by decide +kernel
theorem dX12_renderBars_62 : decode cX12_renderBars 62 = .ok (.getfield 64, 3) := by decide +kernel
theorem dX12_renderBars_65 : decode cX12_renderBars 65 = .ok (.aload_n 0, 1) := by decide +kernel
theorem dX12_renderBars_66 : decode cX12_renderBars 66 = .ok (.getfield 12, 3) := by decide +kernel
theorem dX12_renderBars_69 : decode cX12_renderBars 69 = .ok (.getfield 167, 3) := by decide +kernel
theorem dX12_renderBars_72 : decode cX12_renderBars 72 = .ok (.iload_n 1, 1) := by decide +kernel
theorem dX12_renderBars_73 : decode cX12_renderBars 73 = .ok (.invokevirtual 182, 3) := by decide +kernel
theorem dX12_renderBars_76 : decode cX12_renderBars 76 = .ok (.invokevirtual 369, 3) := by decide +kernel
theorem dX12_renderBars_79 : decode cX12_renderBars 79 = .ok (.iinc 1 1, 3) := by decide +kernel
theorem dX12_renderBars_82 : decode cX12_renderBars 82 = .ok (.goto (-73), 3) := by decide +kernel
theorem dX12_renderBars_85 : decode cX12_renderBars 85 = .ok (.aload_n 0, 1) := by decide +kernel
theorem dX12_renderBars_86 : decode cX12_renderBars 86 = .ok (.getfield 64, 3) := by decide +kernel
theorem dX12_renderBars_89 : decode cX12_renderBars 89 = .ok (.invokevirtual 366, 3) := by decide +kernel
theorem dX12_renderBars_92 : decode cX12_renderBars 92 = .ok (.ireturn, 1) := by decide +kernel
theorem dX12_outputAt_0 : decode cX12_outputAt 0 = .ok (.iload_n 1, 1) := by decide +kernel
theorem dX12_outputAt_1 : decode cX12_outputAt 1 = .ok (.ifCond .lt 18, 3) := by decide +kernel
theorem dX12_outputAt_4 : decode cX12_outputAt 4 = .ok (.iload_n 1, 1) := by decide +kernel
theorem dX12_outputAt_5 : decode cX12_outputAt 5 = .ok (.aload_n 0, 1) := by decide +kernel
theorem dX12_outputAt_6 : decode cX12_outputAt 6 = .ok (.getfield 64, 3) := by decide +kernel
theorem dX12_outputAt_9 : decode cX12_outputAt 9 = .ok (.invokevirtual 366, 3) := by decide +kernel
theorem dX12_outputAt_12 : decode cX12_outputAt 12 = .ok (.if_icmp .ge 7, 3) := by decide +kernel
theorem dX12_outputAt_15 : decode cX12_outputAt 15 = .ok (.iconst 1, 1) := by decide +kernel
theorem dX12_outputAt_16 : decode cX12_outputAt 16 = .ok (.goto 4, 3) := by decide +kernel
theorem dX12_outputAt_19 : decode cX12_outputAt 19 = .ok (.iconst 0, 1) := by decide +kernel
theorem dX12_outputAt_20 : decode cX12_outputAt 20 = .ok (.getstatic 130, 3) := by decide +kernel
theorem dX12_outputAt_23 : decode cX12_outputAt 23 = .ok (.invokestatic 178, 3) := by decide +kernel
theorem dX12_outputAt_26 : decode cX12_outputAt 26 = .ok (.aload_n 0, 1) := by decide +kernel
theorem dX12_outputAt_27 : decode cX12_outputAt 27 = .ok (.getfield 64, 3) := by decide +kernel
theorem dX12_outputAt_30 : decode cX12_outputAt 30 = .ok (.iload_n 1, 1) := by decide +kernel
theorem dX12_outputAt_31 : decode cX12_outputAt 31 = .ok (.invokevirtual 376, 3) := by decide +kernel
theorem dX12_outputAt_34 : decode cX12_outputAt 34 = .ok (.ireturn, 1) := by decide +kernel
theorem dX12_type_0 : decode cX12_type 0 = .ok (.iload_n 1, 1) := by decide +kernel
theorem dX12_type_1 : decode cX12_type 1 = .ok (.bipush 32, 2) := by decide +kernel
theorem dX12_type_3 : decode cX12_type 3 = .ok (.if_icmp .lt 13, 3) := by decide +kernel
theorem dX12_type_6 : decode cX12_type 6 = .ok (.iload_n 1, 1) := by decide +kernel
theorem dX12_type_7 : decode cX12_type 7 = .ok (.bipush 126, 2) := by decide +kernel
theorem dX12_type_9 : decode cX12_type 9 = .ok (.if_icmp .gt 7, 3) := by decide +kernel
theorem dX12_type_12 : decode cX12_type 12 = .ok (.iconst 1, 1) := by decide +kernel
theorem dX12_type_13 : decode cX12_type 13 = .ok (.goto 4, 3) := by decide +kernel
theorem dX12_type_16 : decode cX12_type 16 = .ok (.iconst 0, 1) := by decide +kernel
theorem dX12_type_17 : decode cX12_type 17 = .ok (.getstatic 143, 3) := by decide +kernel
theorem dX12_type_20 : decode cX12_type 20 = .ok (.invokestatic 178, 3) := by decide +kernel
theorem dX12_type_23 : decode cX12_type 23 = .ok (.aload_n 0, 1) := by decide +kernel
theorem dX12_type_24 : decode cX12_type 24 = .ok (.getfield 43, 3) := by decide +kernel
theorem dX12_type_27 : decode cX12_type 27 = .ok (.invokevirtual 379, 3) := by decide +kernel
theorem dX12_type_30 : decode cX12_type 30 = .ok (.bipush 60, 2) := by decide +kernel
theorem dX12_type_32 : decode cX12_type 32 = .ok (.if_icmp .ge 7, 3) := by decide +kernel
theorem dX12_type_35 : decode cX12_type 35 = .ok (.iconst 1, 1) := by decide +kernel
theorem dX12_type_36 : decode cX12_type 36 = .ok (.goto 4, 3) := by decide +kernel
theorem dX12_type_39 : decode cX12_type 39 = .ok (.iconst 0, 1) := by decide +kernel
theorem dX12_type_40 : decode cX12_type 40 = .ok (.getstatic 151, 3) := by decide +kernel
theorem dX12_type_43 : decode cX12_type 43 = .ok (.invokestatic 178, 3) := by decide +kernel
theorem dX12_type_46 : decode cX12_type 46 = .ok (.aload_n 0, 1) := by decide +kernel
theorem dX12_type_47 : decode cX12_type 47 = .ok (.getfield 43, 3) := by decide +kernel
theorem dX12_type_50 : decode cX12_type 50 = .ok (.iload_n 1, 1) := by decide +kernel
theorem dX12_type_51 : decode cX12_type 51 = .ok (.invokevirtual 380, 3) := by decide +kernel
theorem dX12_type_54 : decode cX12_type 54 = .ok (.aload_n 0, 1) := by decide +kernel
theorem dX12_type_55 : decode cX12_type 55 = .ok (.getfield 43, 3) := by decide +kernel
theorem dX12_type_58 : decode cX12_type 58 = .ok (.invokevirtual 379, 3) := by decide +kernel
theorem dX12_type_61 : decode cX12_type 61 = .ok (.ireturn, 1) := by decide +kernel
theorem dX12_load_0 : decode cX12_load 0 = .ok (.aload_n 0, 1) := by decide +kernel
theorem dX12_load_1 : decode cX12_load 1 = .ok (.getfield 43, 3) := by decide +kernel
theorem dX12_load_4 : decode cX12_load 4 = .ok (.aload_n 0, 1) := by decide +kernel
theorem dX12_load_5 : decode cX12_load 5 = .ok (.getfield 50, 3) := by decide +kernel
theorem dX12_load_8 : decode cX12_load 8 = .ok (.invokevirtual 381, 3) := by decide +kernel
theorem dX12_load_11 : decode cX12_load 11 = .ok (.istore_n 1, 1) := by decide +kernel
theorem dX12_load_12 : decode cX12_load 12 = .ok (.aload_n 0, 1) := by decide +kernel
theorem dX12_load_13 : decode cX12_load 13 = .ok (.invokevirtual 385, 3) := by decide +kernel
theorem dX12_load_16 : decode cX12_load 16 = .ok (.iload_n 1, 1) := by decide +kernel
theorem dX12_load_17 : decode cX12_load 17 = .ok (.sipush 200, 3) := by decide +kernel
theorem dX12_load_20 : decode cX12_load 20 = .ok (.if_icmp .gt 7, 3) := by decide +kernel
theorem dX12_load_23 : decode cX12_load 23 = .ok (.iconst 1, 1) := by decide +kernel
theorem dX12_load_24 : decode cX12_load 24 = .ok (.goto 4, 3) := by decide +kernel
theorem dX12_load_27 : decode cX12_load 27 = .ok (.iconst 0, 1) := by decide +kernel
theorem dX12_load_28 : decode cX12_load 28 = .ok (.getstatic 151, 3) := by decide +kernel
theorem dX12_load_31 : decode cX12_load 31 = .ok (.invokestatic 178, 3) := by decide +kernel
theorem dX12_load_34 : decode cX12_load 34 = .ok (.aload_n 0, 1) := by decide +kernel
theorem dX12_load_35 : decode cX12_load 35 = .ok (.getfield 25, 3) := by decide +kernel
theorem dX12_load_38 : decode cX12_load 38 = .ok (.aload_n 0, 1) := by decide +kernel
theorem dX12_load_39 : decode cX12_load 39 = .ok (.getfield 12, 3) := by decide +kernel
theorem dX12_load_42 : decode cX12_load 42 = .ok (.invokevirtual 123, 3) := by decide +kernel
theorem dX12_load_45 : decode cX12_load 45 = .ok (.aload_n 0, 1) := by decide +kernel
theorem dX12_load_46 : decode cX12_load 46 = .ok (.getfield 12, 3) := by decide +kernel
theorem dX12_load_49 : decode cX12_load 49 = .ok (.aload_n 0, 1) := by decide +kernel
theorem dX12_load_50 : decode cX12_load 50 = .ok (.getfield 50, 3) := by decide +kernel
theorem dX12_load_53 : decode cX12_load 53 = .ok (.invokevirtual 388, 3) := by decide +kernel
theorem dX12_load_56 : decode cX12_load 56 = .ok (.aload_n 0, 1) := by decide +kernel
theorem dX12_load_57 : decode cX12_load 57 = .ok (.getfield 12, 3) := by decide +kernel
theorem dX12_load_60 : decode cX12_load 60 = .ok (.getfield 167, 3) := by decide +kernel
theorem dX12_load_63 : decode cX12_load 63 = .ok (.invokevirtual 170, 3) := by decide +kernel
theorem dX12_load_66 : decode cX12_load 66 = .ok (.ireturn, 1) := by decide +kernel
theorem dX12_runScript_0 : decode cX12_runScript 0 = .ok (.aload_n 0, 1) := by decide +kernel
theorem dX12_runScript_1 : decode cX12_runScript 1 = .ok (.getfield 43, 3) := by decide +kernel
theorem dX12_runScript_4 : decode cX12_runScript 4 = .ok (.aload_n 0, 1) := by decide +kernel
theorem dX12_runScript_5 : decode cX12_runScript 5 = .ok (.getfield 57, 3) := by decide +kernel
theorem dX12_runScript_8 : decode cX12_runScript 8 = .ok (.invokevirtual 391, 3) := by decide +kernel
theorem dX12_runScript_11 : decode cX12_runScript 11 = .ok (.aload_n 0, 1) := by decide +kernel
theorem dX12_runScript_12 : decode cX12_runScript 12 = .ok (.invokevirtual 385, 3) := by decide +kernel
theorem dX12_runScript_15 : decode cX12_runScript 15 = .ok (.aload_n 0, 1) := by decide +kernel
theorem dX12_runScript_16 : decode cX12_runScript 16 = .ok (.getfield 16, 3) := by decide +kernel
theorem dX12_runScript_19 : decode cX12_runScript 19 = .ok (.aload_n 0, 1) := by decide +kernel
theorem dX12_runScript_20 : decode cX12_runScript 20 = .ok (.getfield 12, 3) := by decide +kernel
theorem dX12_runScript_23 : decode cX12_runScript 23 = .ok (.invokevirtual 395, 3) := by decide +kernel
theorem dX12_runScript_26 : decode cX12_runScript 26 = .ok (.aload_n 0, 1) := by decide +kernel
theorem dX12_runScript_27 : decode cX12_runScript 27 = .ok (.invokevirtual 398, 3) := by decide +kernel
theorem dX12_runScript_30 : decode cX12_runScript 30 = .ok (.istore_n 1, 1) := by decide +kernel
theorem dX12_runScript_31 : decode cX12_runScript 31 = .ok (.iload_n 1, 1) := by decide +kernel
theorem dX12_runScript_32 : decode cX12_runScript 32 = .ok (.iconst (-1), 1) := by decide +kernel
theorem dX12_runScript_33 : decode cX12_runScript 33 = .ok (.if_icmp .eq 25, 3) := by decide +kernel
theorem dX12_runScript_36 : decode cX12_runScript 36 = .ok (.aload_n 0, 1) := by decide +kernel
theorem dX12_runScript_37 : decode cX12_runScript 37 = .ok (.getfield 12, 3) := by decide +kernel
theorem dX12_runScript_40 : decode cX12_runScript 40 = .ok (.aload_n 0, 1) := by decide +kernel
theorem dX12_runScript_41 : decode cX12_runScript 41 = .ok (.getfield 16, 3) := by decide +kernel
theorem dX12_runScript_44 : decode cX12_runScript 44 = .ok (.invokevirtual 395, 3) := by decide +kernel
theorem dX12_runScript_47 : decode cX12_runScript 47 = .ok (.aload_n 0, 1) := by decide +kernel
theorem dX12_runScript_48 : decode cX12_runScript 48 = .ok (.iload_n 1, 1) := by decide +kernel
theorem dX12_runScript_49 : decode cX12_runScript 49 = .ok (.putfield 72, 3) := by decide +kernel
theorem dX12_runScript_52 : decode cX12_runScript 52 = .ok (.getstatic 151, 3) := by decide +kernel
theorem dX12_runScript_55 : decode cX12_runScript 55 = .ok (.invokestatic 119, 3) := by decide +kernel
theorem dX12_runScript_58 : decode cX12_runScript 58 = .ok (.aload_n 0, 1) := by decide +kernel
theorem dX12_runScript_59 : decode cX12_runScript 59 = .ok (.getfield 25, 3) := by decide +kernel
theorem dX12_runScript_62 : decode cX12_runScript 62 = .ok (.aload_n 0, 1) := by decide +kernel
theorem dX12_runScript_63 : decode cX12_runScript 63 = .ok (.getfield 16, 3) := by decide +kernel
theorem dX12_runScript_66 : decode cX12_runScript 66 = .ok (.invokevirtual 123, 3) := by decide +kernel
theorem dX12_runScript_69 : decode cX12_runScript 69 = .ok (.aload_n 0, 1) := by decide +kernel
theorem dX12_runScript_70 : decode cX12_runScript 70 = .ok (.getfield 57, 3) := by decide +kernel
theorem dX12_runScript_73 : decode cX12_runScript 73 = .ok (.invokevirtual 401, 3) := by decide +kernel
theorem dX12_runScript_76 : decode cX12_runScript 76 = .ok (.ireturn, 1) := by decide +kernel
theorem dX12_finishReading_0 : decode cX12_finishReading 0 = .ok (.aload_n 0, 1) := by decide +kernel
theorem dX12_finishReading_1 : decode cX12_finishReading 1 = .ok (.getfield 43, 3) := by decide +kernel
theorem dX12_finishReading_4 : decode cX12_finishReading 4 = .ok (.invokevirtual 402, 3) := by decide +kernel
theorem dX12_finishReading_7 : decode cX12_finishReading 7 = .ok (.istore_n 1, 1) := by decide +kernel
theorem dX12_finishReading_8 : decode cX12_finishReading 8 = .ok (.aload_n 0, 1) := by decide +kernel
theorem dX12_finishReading_9 : decode cX12_finishReading 9 = .ok (.getfield 43, 3) := by decide +kernel
theorem dX12_finishReading_12 : decode cX12_finishReading 12 = .ok (.invokevirtual 405, 3) := by decide +kernel
theorem dX12_finishReading_15 : decode cX12_finishReading 15 = .ok (.istore_n 2, 1) := by decide +kernel
theorem dX12_finishReading_16 : decode cX12_finishReading 16 = .ok (.aload_n 0, 1) := by decide +kernel
theorem dX12_finishReading_17 : decode cX12_finishReading 17 = .ok (.getfield 43, 3) := by decide +kernel
theorem dX12_finishReading_20 : decode cX12_finishReading 20 = .ok (.invokevirtual 408, 3) := by decide +kernel
theorem dX12_finishReading_23 : decode cX12_finishReading 23 = .ok (.iload_n 1, 1) := by decide +kernel
theorem dX12_finishReading_24 : decode cX12_finishReading 24 = .ok (.ifCond .eq 14, 3) := by decide +kernel
theorem dX12_finishReading_27 : decode cX12_finishReading 27 = .ok (.aload_n 0, 1) := by decide +kernel
theorem dX12_finishReading_28 : decode cX12_finishReading 28 = .ok (.iload_n 2, 1) := by decide +kernel
theorem dX12_finishReading_29 : decode cX12_finishReading 29 = .ok (.putfield 68, 3) := by decide +kernel
theorem dX12_finishReading_32 : decode cX12_finishReading 32 = .ok (.getstatic 143, 3) := by decide +kernel
theorem dX12_finishReading_35 : decode cX12_finishReading 35 = .ok (.invokestatic 119, 3) := by decide +kernel
theorem dX12_finishReading_38 : decode cX12_finishReading 38 = .ok (.return_, 1) := by decide +kernel
theorem dX12_firstFailure_0 : decode cX12_firstFailure 0 = .ok (.iconst 0, 1) := by decide +kernel
theorem dX12_firstFailure_1 : decode cX12_firstFailure 1 = .ok (.istore_n 1, 1) := by decide +kernel
theorem dX12_firstFailure_2 : decode cX12_firstFailure 2 = .ok (.iload_n 1, 1) := by decide +kernel
theorem dX12_firstFailure_3 : decode cX12_firstFailure 3 = .ok (.aload_n 0, 1) := by decide +kernel
theorem dX12_firstFailure_4 : decode cX12_firstFailure 4 = .ok (.getfield 57, 3) := by decide +kernel
theorem dX12_firstFailure_7 : decode cX12_firstFailure 7 = .ok (.invokevirtual 401, 3) := by decide +kernel
theorem dX12_firstFailure_10 : decode cX12_firstFailure 10 = .ok (.if_icmp .ge 59, 3) := by decide +kernel
theorem dX12_firstFailure_13 : decode cX12_firstFailure 13 = .ok (.aload_n 0, 1) := by decide +kernel
theorem dX12_firstFailure_14 : decode cX12_firstFailure 14 = .ok (.getfield 57, 3) := by decide +kernel
theorem dX12_firstFailure_17 : decode cX12_firstFailure 17 = .ok (.iload_n 1, 1) := by decide +kernel
theorem dX12_firstFailure_18 : decode cX12_firstFailure 18 = .ok (.invokevirtual 409, 3) := by decide +kernel
theorem dX12_firstFailure_21 : decode cX12_firstFailure 21 = .ok (.astore_n 2, 1) := by decide +kernel
theorem dX12_firstFailure_22 : decode cX12_firstFailure 22 = .ok (.aload_n 2, 1) := by decide +kernel
theorem dX12_firstFailure_23 : decode cX12_firstFailure 23 = .ok (.ifnull 14, 3) := by decide +kernel
theorem dX12_firstFailure_26 : decode cX12_firstFailure 26 = .ok (.aload_n 0, 1) := by decide +kernel
theorem dX12_firstFailure_27 : decode cX12_firstFailure 27 = .ok (.aload_n 2, 1) := by decide +kernel
theorem dX12_firstFailure_28 : decode cX12_firstFailure 28 = .ok (.invokevirtual 412, 3) := by decide +kernel
theorem dX12_firstFailure_31 : decode cX12_firstFailure 31 = .ok (.getstatic 275, 3) := by decide +kernel
theorem dX12_firstFailure_34 : decode cX12_firstFailure 34 = .ok (.if_acmp .eq 5, 3) := by decide +kernel
theorem dX12_firstFailure_37 : decode cX12_firstFailure 37 = .ok (.iload_n 1, 1) := by decide +kernel
theorem dX12_firstFailure_38 : decode cX12_firstFailure 38 = .ok (.ireturn, 1) := by decide +kernel
theorem dX12_firstFailure_39 : decode cX12_firstFailure 39 = .ok (.aload_n 0, 1) := by decide +kernel
theorem dX12_firstFailure_40 : decode cX12_firstFailure 40 = .ok (.getfield 12, 3) := by decide +kernel
theorem dX12_firstFailure_43 : decode cX12_firstFailure 43 = .ok (.aload_n 2, 1) := by decide +kernel
theorem dX12_firstFailure_44 : decode cX12_firstFailure 44 = .ok (.getfield 415, 3) := by decide +kernel
theorem dX12_firstFailure_47 : decode cX12_firstFailure 47 = .ok (.aload_n 2, 1) := by decide +kernel
theorem dX12_firstFailure_48 : decode cX12_firstFailure 48 = .ok (.getfield 420, 3) := by decide +kernel
theorem dX12_firstFailure_51 : decode cX12_firstFailure 51 = .ok (.aload_n 2, 1) := by decide +kernel
theorem dX12_firstFailure_52 : decode cX12_firstFailure 52 = .ok (.getfield 423, 3) := by decide +kernel
theorem dX12_firstFailure_55 : decode cX12_firstFailure 55 = .ok (.aload_n 2, 1) := by decide +kernel
theorem dX12_firstFailure_56 : decode cX12_firstFailure 56 = .ok (.getfield 426, 3) := by decide +kernel
theorem dX12_firstFailure_59 : decode cX12_firstFailure 59 = .ok (.invokevirtual 127, 3) := by decide +kernel
theorem dX12_firstFailure_62 : decode cX12_firstFailure 62 = .ok (.pop, 1) := by decide +kernel
theorem dX12_firstFailure_63 : decode cX12_firstFailure 63 = .ok (.iinc 1 1, 3) := by decide +kernel
theorem dX12_firstFailure_66 : decode cX12_firstFailure 66 = .ok (.goto (-64), 3) := by decide +kernel
theorem dX12_firstFailure_69 : decode cX12_firstFailure 69 = .ok (.iconst (-1), 1) := by decide +kernel
theorem dX12_firstFailure_70 : decode cX12_firstFailure 70 = .ok (.ireturn, 1) := by decide +kernel
theorem dX12_faultOf_0 : decode cX12_faultOf 0 = .ok (.aload_n 0, 1) := by decide +kernel
theorem dX12_faultOf_1 : decode cX12_faultOf 1 = .ok (.getfield 12, 3) := by decide +kernel
theorem dX12_faultOf_4 : decode cX12_faultOf 4 = .ok (.aload_n 1, 1) := by decide +kernel
theorem dX12_faultOf_5 : decode cX12_faultOf 5 = .ok (.getfield 415, 3) := by decide +kernel
theorem dX12_faultOf_8 : decode cX12_faultOf 8 = .ok (.aload_n 1, 1) := by decide +kernel
theorem dX12_faultOf_9 : decode cX12_faultOf 9 = .ok (.getfield 420, 3) := by decide +kernel
theorem dX12_faultOf_12 : decode cX12_faultOf 12 = .ok (.aload_n 1, 1) := by decide +kernel
theorem dX12_faultOf_13 : decode cX12_faultOf 13 = .ok (.getfield 423, 3) := by decide +kernel
theorem dX12_faultOf_16 : decode cX12_faultOf 16 = .ok (.aload_n 1, 1) := by decide +kernel
theorem dX12_faultOf_17 : decode cX12_faultOf 17 = .ok (.getfield 426, 3) := by decide +kernel
theorem dX12_faultOf_20 : decode cX12_faultOf 20 = .ok (.invokevirtual 115, 3) := by decide +kernel
theorem dX12_faultOf_23 : decode cX12_faultOf 23 = .ok (.areturn, 1) := by decide +kernel
theorem dX12_errorPosition_0 : decode cX12_errorPosition 0 = .ok (.aload_n 0, 1) := by decide +kernel
theorem dX12_errorPosition_1 : decode cX12_errorPosition 1 = .ok (.getfield 68, 3) := by decide +kernel
theorem dX12_errorPosition_4 : decode cX12_errorPosition 4 = .ok (.iconst (-1), 1) := by decide +kernel
theorem dX12_errorPosition_5 : decode cX12_errorPosition 5 = .ok (.if_icmp .eq 7, 3) := by decide +kernel
theorem dX12_errorPosition_8 : decode cX12_errorPosition 8 = .ok (.iconst 1, 1) := by decide +kernel
theorem dX12_errorPosition_9 : decode cX12_errorPosition 9 = .ok (.goto 4, 3) := by decide +kernel
theorem dX12_errorPosition_12 : decode cX12_errorPosition 12 = .ok (.iconst 0, 1) := by decide +kernel
theorem dX12_errorPosition_13 : decode cX12_errorPosition 13 = .ok (.getstatic 159, 3) := by decide +kernel
theorem dX12_errorPosition_16 : decode cX12_errorPosition 16 = .ok (.invokestatic 178, 3) := by decide +kernel
theorem dX12_errorPosition_19 : decode cX12_errorPosition 19 = .ok (.aload_n 0, 1) := by decide +kernel
theorem dX12_errorPosition_20 : decode cX12_errorPosition 20 = .ok (.getfield 68, 3) := by decide +kernel
theorem dX12_errorPosition_23 : decode cX12_errorPosition 23 = .ok (.ireturn, 1) := by decide +kernel
theorem dX12_failedCommand_0 : decode cX12_failedCommand 0 = .ok (.aload_n 0, 1) := by decide +kernel
theorem dX12_failedCommand_1 : decode cX12_failedCommand 1 = .ok (.getfield 72, 3) := by decide +kernel
theorem dX12_failedCommand_4 : decode cX12_failedCommand 4 = .ok (.iconst (-1), 1) := by decide +kernel
theorem dX12_failedCommand_5 : decode cX12_failedCommand 5 = .ok (.if_icmp .eq 7, 3) := by decide +kernel
theorem dX12_failedCommand_8 : decode cX12_failedCommand 8 = .ok (.iconst 1, 1) := by decide +kernel
theorem dX12_failedCommand_9 : decode cX12_failedCommand 9 = .ok (.goto 4, 3) := by decide +kernel
theorem dX12_failedCommand_12 : decode cX12_failedCommand 12 = .ok (.iconst 0, 1) := by decide +kernel
theorem dX12_failedCommand_13 : decode cX12_failedCommand 13 = .ok (.getstatic 159, 3) := by decide +kernel
theorem dX12_failedCommand_16 : decode cX12_failedCommand 16 = .ok (.invokestatic 178, 3) := by decide +kernel
theorem dX12_failedCommand_19 : decode cX12_failedCommand 19 = .ok (.aload_n 0, 1) := by decide +kernel
theorem dX12_failedCommand_20 : decode cX12_failedCommand 20 = .ok (.getfield 72, 3) := by decide +kernel
theorem dX12_failedCommand_23 : decode cX12_failedCommand 23 = .ok (.ireturn, 1) := by decide +kernel
theorem dX12_undo_0 : decode cX12_undo 0 = .ok (.aload_n 0, 1) := by decide +kernel
theorem dX12_undo_1 : decode cX12_undo 1 = .ok (.getfield 25, 3) := by decide +kernel
theorem dX12_undo_4 : decode cX12_undo 4 = .ok (.invokevirtual 429, 3) := by decide +kernel
theorem dX12_undo_7 : decode cX12_undo 7 = .ok (.ifCond .le 7, 3) := by decide +kernel
theorem dX12_undo_10 : decode cX12_undo 10 = .ok (.iconst 1, 1) := by decide +kernel
theorem dX12_undo_11 : decode cX12_undo 11 = .ok (.goto 4, 3) := by decide +kernel
theorem dX12_undo_14 : decode cX12_undo 14 = .ok (.iconst 0, 1) := by decide +kernel
theorem dX12_undo_15 : decode cX12_undo 15 = .ok (.getstatic 151, 3) := by decide +kernel
theorem dX12_undo_18 : decode cX12_undo 18 = .ok (.invokestatic 178, 3) := by decide +kernel
theorem dX12_undo_21 : decode cX12_undo 21 = .ok (.aload_n 0, 1) := by decide +kernel
theorem dX12_undo_22 : decode cX12_undo 22 = .ok (.getfield 25, 3) := by decide +kernel
theorem dX12_undo_25 : decode cX12_undo 25 = .ok (.aload_n 0, 1) := by decide +kernel
theorem dX12_undo_26 : decode cX12_undo 26 = .ok (.getfield 12, 3) := by decide +kernel
theorem dX12_undo_29 : decode cX12_undo 29 = .ok (.invokevirtual 430, 3) := by decide +kernel
theorem dX12_undo_32 : decode cX12_undo 32 = .ok (.aload_n 0, 1) := by decide +kernel
theorem dX12_undo_33 : decode cX12_undo 33 = .ok (.getfield 25, 3) := by decide +kernel
theorem dX12_undo_36 : decode cX12_undo 36 = .ok (.invokevirtual 429, 3) := by decide +kernel
theorem dX12_undo_39 : decode cX12_undo 39 = .ok (.ireturn, 1) := by decide +kernel
theorem dX12_save_0 : decode cX12_save 0 = .ok (.aload_n 0, 1) := by decide +kernel
theorem dX12_save_1 : decode cX12_save 1 = .ok (.getfield 19, 3) := by decide +kernel
theorem dX12_save_4 : decode cX12_save 4 = .ok (.aload_n 0, 1) := by decide +kernel
theorem dX12_save_5 : decode cX12_save 5 = .ok (.getfield 12, 3) := by decide +kernel
theorem dX12_save_8 : decode cX12_save 8 = .ok (.invokevirtual 395, 3) := by decide +kernel
theorem dX12_save_11 : decode cX12_save 11 = .ok (.aload_n 0, 1) := by decide +kernel
theorem dX12_save_12 : decode cX12_save 12 = .ok (.iconst 1, 1) := by decide +kernel
theorem dX12_save_13 : decode cX12_save 13 = .ok (.putfield 433, 3) := by decide +kernel
theorem dX12_save_16 : decode cX12_save 16 = .ok (.aload_n 0, 1) := by decide +kernel
theorem dX12_save_17 : decode cX12_save 17 = .ok (.getfield 12, 3) := by decide +kernel
theorem dX12_save_20 : decode cX12_save 20 = .ok (.getfield 167, 3) := by decide +kernel
theorem dX12_save_23 : decode cX12_save 23 = .ok (.invokevirtual 170, 3) := by decide +kernel
theorem dX12_save_26 : decode cX12_save 26 = .ok (.ireturn, 1) := by decide +kernel
theorem dX12_restore_0 : decode cX12_restore 0 = .ok (.aload_n 0, 1) := by decide +kernel
theorem dX12_restore_1 : decode cX12_restore 1 = .ok (.getfield 433, 3) := by decide +kernel
theorem dX12_restore_4 : decode cX12_restore 4 = .ok (.getstatic 151, 3) := by decide +kernel
theorem dX12_restore_7 : decode cX12_restore 7 = .ok (.invokestatic 178, 3) := by decide +kernel
theorem dX12_restore_10 : decode cX12_restore 10 = .ok (.aload_n 0, 1) := by decide +kernel
theorem dX12_restore_11 : decode cX12_restore 11 = .ok (.getfield 12, 3) := by decide +kernel
theorem dX12_restore_14 : decode cX12_restore 14 = .ok (.aload_n 0, 1) := by decide +kernel
theorem dX12_restore_15 : decode cX12_restore 15 = .ok (.getfield 19, 3) := by decide +kernel
theorem dX12_restore_18 : decode cX12_restore 18 = .ok (.invokevirtual 395, 3) := by decide +kernel
theorem dX12_restore_21 : decode cX12_restore 21 = .ok (.aload_n 0, 1) := by decide +kernel
theorem dX12_restore_22 : decode cX12_restore 22 = .ok (.getfield 25, 3) := by decide +kernel
theorem dX12_restore_25 : decode cX12_restore 25 = .ok (.invokevirtual 437, 3) := by decide +kernel
theorem dX12_restore_28 : decode cX12_restore 28 = .ok (.aload_n 0, 1) := by decide +kernel
theorem dX12_restore_29 : decode cX12_restore 29 = .ok (.getfield 12, 3) := by decide +kernel
theorem dX12_restore_32 : decode cX12_restore 32 = .ok (.getfield 167, 3) := by decide +kernel
theorem dX12_restore_35 : decode cX12_restore 35 = .ok (.invokevirtual 170, 3) := by decide +kernel
theorem dX12_restore_38 : decode cX12_restore 38 = .ok (.ireturn, 1) := by decide +kernel
theorem dX13_init_0 : decode cX13_init 0 = .ok (.aload_n 0, 1) := by decide +kernel
theorem dX13_init_1 : decode cX13_init 1 = .ok (.invokespecial 1, 3) := by decide +kernel
theorem dX13_init_4 : decode cX13_init 4 = .ok (.aload_n 0, 1) := by decide +kernel
theorem dX13_init_5 : decode cX13_init 5 = .ok (.iconst (-1), 1) := by decide +kernel
theorem dX13_init_6 : decode cX13_init 6 = .ok (.putfield 7, 3) := by decide +kernel
theorem dX13_init_9 : decode cX13_init 9 = .ok (.aload_n 0, 1) := by decide +kernel
theorem dX13_init_10 : decode cX13_init 10 = .ok (.iconst (-1), 1) := by decide +kernel
theorem dX13_init_11 : decode cX13_init 11 = .ok (.putfield 13, 3) := by decide +kernel
theorem dX13_init_14 : decode cX13_init 14 = .ok (.aload_n 0, 1) := by decide +kernel
theorem dX13_init_15 : decode cX13_init 15 = .ok (.sipush 410, 3) := by decide +kernel
theorem dX13_init_18 : decode cX13_init 18 = .ok (.newarray .int, 2) := by decide +kernel
theorem dX13_init_20 : decode cX13_init 20 = .ok (.putfield 16, 3) := by decide +kernel
theorem dX13_init_23 : decode cX13_init 23 = .ok (.aload_n 0, 1) := by decide +kernel
theorem dX13_init_24 : decode cX13_init 24 = .ok (.sipush 410, 3) := by decide +kernel
theorem dX13_init_27 : decode cX13_init 27 = .ok (.newarray .int, 2) := by decide +kernel
theorem dX13_init_29 : decode cX13_init 29 = .ok (.putfield 20, 3) := by decide +kernel
theorem dX13_init_32 : decode cX13_init 32 = .ok (.aload_n 0, 1) := by decide +kernel
theorem dX13_init_33 : decode cX13_init 33 = .ok (.sipush 410, 3) := by decide +kernel
theorem dX13_init_36 : decode cX13_init 36 = .ok (.newarray .int, 2) := by decide +kernel
theorem dX13_init_38 : decode cX13_init 38 = .ok (.putfield 23, 3) := by decide +kernel
theorem dX13_init_41 : decode cX13_init 41 = .ok (.aload_n 0, 1) := by decide +kernel
theorem dX13_init_42 : decode cX13_init 42 = .ok (.sipush 3280, 3) := by decide +kernel
theorem dX13_init_45 : decode cX13_init 45 = .ok (.newarray .int, 2) := by decide +kernel
theorem dX13_init_47 : decode cX13_init 47 = .ok (.putfield 26, 3) := by decide +kernel
theorem dX13_init_50 : decode cX13_init 50 = .ok (.aload_n 0, 1) := by decide +kernel
theorem dX13_init_51 : decode cX13_init 51 = .ok (.sipush 200, 3) := by decide +kernel
theorem dX13_init_54 : decode cX13_init 54 = .ok (.newarray .int, 2) := by decide +kernel
theorem dX13_init_56 : decode cX13_init 56 = .ok (.putfield 29, 3) := by decide +kernel
theorem dX13_init_59 : decode cX13_init 59 = .ok (.aload_n 0, 1) := by decide +kernel
theorem dX13_init_60 : decode cX13_init 60 = .ok (.bipush 60, 2) := by decide +kernel
theorem dX13_init_62 : decode cX13_init 62 = .ok (.newarray .int, 2) := by decide +kernel
theorem dX13_init_64 : decode cX13_init 64 = .ok (.putfield 32, 3) := by decide +kernel
theorem dX13_init_67 : decode cX13_init 67 = .ok (.aload_n 0, 1) := by decide +kernel
theorem dX13_init_68 : decode cX13_init 68 = .ok (.sipush 1200, 3) := by decide +kernel
theorem dX13_init_71 : decode cX13_init 71 = .ok (.newarray .int, 2) := by decide +kernel
theorem dX13_init_73 : decode cX13_init 73 = .ok (.putfield 35, 3) := by decide +kernel
theorem dX13_init_76 : decode cX13_init 76 = .ok (.aload_n 0, 1) := by decide +kernel
theorem dX13_init_77 : decode cX13_init 77 = .ok (.bipush 11, 2) := by decide +kernel
theorem dX13_init_79 : decode cX13_init 79 = .ok (.newarray .int, 2) := by decide +kernel
theorem dX13_init_81 : decode cX13_init 81 = .ok (.putfield 38, 3) := by decide +kernel
theorem dX13_init_84 : decode cX13_init 84 = .ok (.aload_n 0, 1) := by decide +kernel
theorem dX13_init_85 : decode cX13_init 85 = .ok (.bipush 69, 2) := by decide +kernel
theorem dX13_init_87 : decode cX13_init 87 = .ok (.newarray .int, 2) := by decide +kernel
theorem dX13_init_89 : decode cX13_init 89 = .ok (.dup, 1) := by decide +kernel
theorem dX13_init_90 : decode cX13_init 90 = .ok (.iconst 0, 1) := by decide +kernel
theorem dX13_init_91 : decode cX13_init 91 = .ok (.bipush 112, 2) := by decide +kernel
theorem dX13_init_93 : decode cX13_init 93 = .ok (.iastore, 1) := by decide +kernel
theorem dX13_init_94 : decode cX13_init 94 = .ok (.dup, 1) := by decide +kernel
theorem dX13_init_95 : decode cX13_init 95 = .ok (.iconst 1, 1) := by decide +kernel
theorem dX13_init_96 : decode cX13_init 96 = .ok (.bipush 97, 2) := by decide +kernel
theorem dX13_init_98 : decode cX13_init 98 = .ok (.iastore, 1) := by decide +kernel
theorem dX13_init_99 : decode cX13_init 99 = .ok (.dup, 1) := by decide +kernel
theorem dX13_init_100 : decode cX13_init 100 = .ok (.iconst 2, 1) := by decide +kernel
theorem dX13_init_101 : decode cX13_init 101 = .ok (.bipush 115, 2) := by decide +kernel
theorem dX13_init_103 : decode cX13_init 103 = .ok (.iastore, 1) := by decide +kernel
theorem dX13_init_104 : decode cX13_init 104 = .ok (.dup, 1) := by decide +kernel
theorem dX13_init_105 : decode cX13_init 105 = .ok (.iconst 3, 1) := by decide +kernel
theorem dX13_init_106 : decode cX13_init 106 = .ok (.bipush 115, 2) := by decide +kernel
theorem dX13_init_108 : decode cX13_init 108 = .ok (.iastore, 1) := by decide +kernel
theorem dX13_init_109 : decode cX13_init 109 = .ok (.dup, 1) := by decide +kernel
theorem dX13_init_110 : decode cX13_init 110 = .ok (.iconst 4, 1) := by decide +kernel
theorem dX13_init_111 : decode cX13_init 111 = .ok (.bipush 32, 2) := by decide +kernel
theorem dX13_init_113 : decode cX13_init 113 = .ok (.iastore, 1) := by decide +kernel
theorem dX13_init_114 : decode cX13_init 114 = .ok (.dup, 1) := by decide +kernel
theorem dX13_init_115 : decode cX13_init 115 = .ok (.iconst 5, 1) := by decide +kernel
theorem dX13_init_116 : decode cX13_init 116 = .ok (.bipush 114, 2) := by decide +kernel
theorem dX13_init_118 : decode cX13_init 118 = .ok (.iastore, 1) := by decide +kernel
theorem dX13_init_119 : decode cX13_init 119 = .ok (.dup, 1) := by decide +kernel
theorem dX13_init_120 : decode cX13_init 120 = .ok (.bipush 6, 2) := by decide +kernel
theorem dX13_init_122 : decode cX13_init 122 = .ok (.bipush 101, 2) := by decide +kernel
theorem dX13_init_124 : decode cX13_init 124 = .ok (.iastore, 1) := by decide +kernel
theorem dX13_init_125 : decode cX13_init 125 = .ok (.dup, 1) := by decide +kernel
theorem dX13_init_126 : decode cX13_init 126 = .ok (.bipush 7, 2) := by decide +kernel
theorem dX13_init_128 : decode cX13_init 128 = .ok (.bipush 115, 2) := by decide +kernel
theorem dX13_init_130 : decode cX13_init 130 = .ok (.iastore, 1) := by decide +kernel
theorem dX13_init_131 : decode cX13_init 131 = .ok (.dup, 1) := by decide +kernel
theorem dX13_init_132 : decode cX13_init 132 = .ok (.bipush 8, 2) := by decide +kernel
theorem dX13_init_134 : decode cX13_init 134 = .ok (.bipush 116, 2) := by decide +kernel
theorem dX13_init_136 : decode cX13_init 136 = .ok (.iastore, 1) := by decide +kernel
theorem dX13_init_137 : decode cX13_init 137 = .ok (.dup, 1) := by decide +kernel
theorem dX13_init_138 : decode cX13_init 138 = .ok (.bipush 9, 2) := by decide +kernel
theorem dX13_init_140 : decode cX13_init 140 = .ok (.bipush 32, 2) := by decide +kernel
theorem dX13_init_142 : decode cX13_init 142 = .ok (.iastore, 1) := by decide +kernel
theorem dX13_init_143 : decode cX13_init 143 = .ok (.dup, 1) := by decide +kernel
theorem dX13_init_144 : decode cX13_init 144 = .ok (.bipush 10, 2) := by decide +kernel
theorem dX13_init_146 : decode cX13_init 146 = .ok (.bipush 114, 2) := by decide +kernel
theorem dX13_init_148 : decode cX13_init 148 = .ok (.iastore, 1) := by decide +kernel
theorem dX13_init_149 : decode cX13_init 149 = .ok (.dup, 1) := by decide +kernel
theorem dX13_init_150 : decode cX13_init 150 = .ok (.bipush 11, 2) := by decide +kernel
theorem dX13_init_152 : decode cX13_init 152 = .ok (.bipush 101, 2) := by decide +kernel
theorem dX13_init_154 : decode cX13_init 154 = .ok (.iastore, 1) := by decide +kernel
theorem dX13_init_155 : decode cX13_init 155 = .ok (.dup, 1) := by decide +kernel
theorem dX13_init_156 : decode cX13_init 156 = .ok (.bipush 12, 2) := by decide +kernel
theorem dX13_init_158 : decode cX13_init 158 = .ok (.bipush 109, 2) := by decide +kernel
theorem dX13_init_160 : decode cX13_init 160 = .ok (.iastore, 1) := by decide +kernel
theorem dX13_init_161 : decode cX13_init 161 = .ok (.dup, 1) := by decide +kernel
theorem dX13_init_162 : decode cX13_init 162 = .ok (.bipush 13, 2) := by decide +kernel
theorem dX13_init_164 : decode cX13_init 164 = .ok (.bipush 111, 2) := by decide +kernel
theorem dX13_init_166 : decode cX13_init 166 = .ok (.iastore, 1) := by decide +kernel
theorem dX13_init_167 : decode cX13_init 167 = .ok (.dup, 1) := by decide +kernel
theorem dX13_init_168 : decode cX13_init 168 = .ok (.bipush 14, 2) := by decide +kernel
theorem dX13_init_170 : decode cX13_init 170 = .ok (.bipush 118, 2) := by decide +kernel
theorem dX13_init_172 : decode cX13_init 172 = .ok (.iastore, 1) := by decide +kernel
theorem dX13_init_173 : decode cX13_init 173 = .ok (.dup, 1) := by decide +kernel
theorem dX13_init_174 : decode cX13_init 174 = .ok (.bipush 15, 2) := by decide +kernel
theorem dX13_init_176 : decode cX13_init 176 = .ok (.bipush 101, 2) := by decide +kernel
theorem dX13_init_178 : decode cX13_init 178 = .ok (.iastore, 1) := by decide +kernel
theorem dX13_init_179 : decode cX13_init 179 = .ok (.dup, 1) := by decide +kernel
theorem dX13_init_180 : decode cX13_init 180 = .ok (.bipush 16, 2) := by decide +kernel
theorem dX13_init_182 : decode cX13_init 182 = .ok (.bipush 32, 2) := by decide +kernel
theorem dX13_init_184 : decode cX13_init 184 = .ok (.iastore, 1) := by decide +kernel
theorem dX13_init_185 : decode cX13_init 185 = .ok (.dup, 1) := by decide +kernel
theorem dX13_init_186 : decode cX13_init 186 = .ok (.bipush 17, 2) := by decide +kernel
theorem dX13_init_188 : decode cX13_init 188 = .ok (.bipush 109, 2) := by decide +kernel
theorem dX13_init_190 : decode cX13_init 190 = .ok (.iastore, 1) := by decide +kernel
theorem dX13_init_191 : decode cX13_init 191 = .ok (.dup, 1) := by decide +kernel
theorem dX13_init_192 : decode cX13_init 192 = .ok (.bipush 18, 2) := by decide +kernel
theorem dX13_init_194 : decode cX13_init 194 = .ok (.bipush 117, 2) := by decide +kernel
theorem dX13_init_196 : decode cX13_init 196 = .ok (.iastore, 1) := by decide +kernel
theorem dX13_init_197 : decode cX13_init 197 = .ok (.dup, 1) := by decide +kernel
theorem dX13_init_198 : decode cX13_init 198 = .ok (.bipush 19, 2) := by decide +kernel
theorem dX13_init_200 : decode cX13_init 200 = .ok (.bipush 116, 2) := by decide +kernel
theorem dX13_init_202 : decode cX13_init 202 = .ok (.iastore, 1) := by decide +kernel
theorem dX13_init_203 : decode cX13_init 203 = .ok (.dup, 1) := by decide +kernel
theorem dX13_init_204 : decode cX13_init 204 = .ok (.bipush 20, 2) := by decide +kernel
theorem dX13_init_206 : decode cX13_init 206 = .ok (.bipush 101, 2) := by decide +kernel
theorem dX13_init_208 : decode cX13_init 208 = .ok (.iastore, 1) := by decide +kernel
theorem dX13_init_209 : decode cX13_init 209 = .ok (.dup, 1) := by decide +kernel
theorem dX13_init_210 : decode cX13_init 210 = .ok (.bipush 21, 2) := by decide +kernel
theorem dX13_init_212 : decode cX13_init 212 = .ok (.bipush 32, 2) := by decide +kernel
theorem dX13_init_214 : decode cX13_init 214 = .ok (.iastore, 1) := by decide +kernel
theorem dX13_init_215 : decode cX13_init 215 = .ok (.dup, 1) := by decide +kernel
theorem dX13_init_216 : decode cX13_init 216 = .ok (.bipush 22, 2) := by decide +kernel
theorem dX13_init_218 : decode cX13_init 218 = .ok (.bipush 114, 2) := by decide +kernel
theorem dX13_init_220 : decode cX13_init 220 = .ok (.iastore, 1) := by decide +kernel
theorem dX13_init_221 : decode cX13_init 221 = .ok (.dup, 1) := by decide +kernel
theorem dX13_init_222 : decode cX13_init 222 = .ok (.bipush 23, 2) := by decide +kernel
theorem dX13_init_224 : decode cX13_init 224 = .ok (.bipush 101, 2) := by decide +kernel
theorem dX13_init_226 : decode cX13_init 226 = .ok (.iastore, 1) := by decide +kernel
theorem dX13_init_227 : decode cX13_init 227 = .ok (.dup, 1) := by decide +kernel
theorem dX13_init_228 : decode cX13_init 228 = .ok (.bipush 24, 2) := by decide +kernel
theorem dX13_init_230 : decode cX13_init 230 = .ok (.bipush 118, 2) := by decide +kernel
theorem dX13_init_232 : decode cX13_init 232 = .ok (.iastore, 1) := by decide +kernel
theorem dX13_init_233 : decode cX13_init 233 = .ok (.dup, 1) := by decide +kernel
theorem dX13_init_234 : decode cX13_init 234 = .ok (.bipush 25, 2) := by decide +kernel
theorem dX13_init_236 : decode cX13_init 236 = .ok (.bipush 101, 2) := by decide +kernel
theorem dX13_init_238 : decode cX13_init 238 = .ok (.iastore, 1) := by decide +kernel
theorem dX13_init_239 : decode cX13_init 239 = .ok (.dup, 1) := by decide +kernel
theorem dX13_init_240 : decode cX13_init 240 = .ok (.bipush 26, 2) := by decide +kernel
theorem dX13_init_242 : decode cX13_init 242 = .ok (.bipush 114, 2) := by decide +kernel
theorem dX13_init_244 : decode cX13_init 244 = .ok (.iastore, 1) := by decide +kernel
theorem dX13_init_245 : decode cX13_init 245 = .ok (.dup, 1) := by decide +kernel
theorem dX13_init_246 : decode cX13_init 246 = .ok (.bipush 27, 2) := by decide +kernel
theorem dX13_init_248 : decode cX13_init 248 = .ok (.bipush 115, 2) := by decide +kernel
theorem dX13_init_250 : decode cX13_init 250 = .ok (.iastore, 1) := by decide +kernel
theorem dX13_init_251 : decode cX13_init 251 = .ok (.dup, 1) := by decide +kernel
theorem dX13_init_252 : decode cX13_init 252 = .ok (.bipush 28, 2) := by decide +kernel
theorem dX13_init_254 : decode cX13_init 254 = .ok (.bipush 101, 2) := by decide +kernel
theorem dX13_init_256 : decode cX13_init 256 = .ok (.iastore, 1) := by decide +kernel
theorem dX13_init_257 : decode cX13_init 257 = .ok (.dup, 1) := by decide +kernel
theorem dX13_init_258 : decode cX13_init 258 = .ok (.bipush 29, 2) := by decide +kernel
theorem dX13_init_260 : decode cX13_init 260 = .ok (.bipush 32, 2) := by decide +kernel
theorem dX13_init_262 : decode cX13_init 262 = .ok (.iastore, 1) := by decide +kernel
theorem dX13_init_263 : decode cX13_init 263 = .ok (.dup, 1) := by decide +kernel
theorem dX13_init_264 : decode cX13_init 264 = .ok (.bipush 30, 2) := by decide +kernel
theorem dX13_init_266 : decode cX13_init 266 = .ok (.bipush 99, 2) := by decide +kernel
theorem dX13_init_268 : decode cX13_init 268 = .ok (.iastore, 1) := by decide +kernel
theorem dX13_init_269 : decode cX13_init 269 = .ok (.dup, 1) := by decide +kernel
theorem dX13_init_270 : decode cX13_init 270 = .ok (.bipush 31, 2) := by decide +kernel
theorem dX13_init_272 : decode cX13_init 272 = .ok (.bipush 111, 2) := by decide +kernel
theorem dX13_init_274 : decode cX13_init 274 = .ok (.iastore, 1) := by decide +kernel
theorem dX13_init_275 : decode cX13_init 275 = .ok (.dup, 1) := by decide +kernel
theorem dX13_init_276 : decode cX13_init 276 = .ok (.bipush 32, 2) := by decide +kernel
theorem dX13_init_278 : decode cX13_init 278 = .ok (.bipush 112, 2) := by decide +kernel
theorem dX13_init_280 : decode cX13_init 280 = .ok (.iastore, 1) := by decide +kernel
theorem dX13_init_281 : decode cX13_init 281 = .ok (.dup, 1) := by decide +kernel
theorem dX13_init_282 : decode cX13_init 282 = .ok (.bipush 33, 2) := by decide +kernel
theorem dX13_init_284 : decode cX13_init 284 = .ok (.bipush 121, 2) := by decide +kernel
theorem dX13_init_286 : decode cX13_init 286 = .ok (.iastore, 1) := by decide +kernel
theorem dX13_init_287 : decode cX13_init 287 = .ok (.dup, 1) := by decide +kernel
theorem dX13_init_288 : decode cX13_init 288 = .ok (.bipush 34, 2) := by decide +kernel
theorem dX13_init_290 : decode cX13_init 290 = .ok (.bipush 32, 2) := by decide +kernel
theorem dX13_init_292 : decode cX13_init 292 = .ok (.iastore, 1) := by decide +kernel
theorem dX13_init_293 : decode cX13_init 293 = .ok (.dup, 1) := by decide +kernel
theorem dX13_init_294 : decode cX13_init 294 = .ok (.bipush 35, 2) := by decide +kernel
theorem dX13_init_296 : decode cX13_init 296 = .ok (.bipush 109, 2) := by decide +kernel
theorem dX13_init_298 : decode cX13_init 298 = .ok (.iastore, 1) := by decide +kernel
theorem dX13_init_299 : decode cX13_init 299 = .ok (.dup, 1) := by decide +kernel
theorem dX13_init_300 : decode cX13_init 300 = .ok (.bipush 36, 2) := by decide +kernel
theorem dX13_init_302 : decode cX13_init 302 = .ok (.bipush 111, 2) := by decide +kernel
theorem dX13_init_304 : decode cX13_init 304 = .ok (.iastore, 1) := by decide +kernel
theorem dX13_init_305 : decode cX13_init 305 = .ok (.dup, 1) := by decide +kernel
theorem dX13_init_306 : decode cX13_init 306 = .ok (.bipush 37, 2) := by decide +kernel
theorem dX13_init_308 : decode cX13_init 308 = .ok (.bipush 100, 2) := by decide +kernel
theorem dX13_init_310 : decode cX13_init 310 = .ok (.iastore, 1) := by decide +kernel
theorem dX13_init_311 : decode cX13_init 311 = .ok (.dup, 1) := by decide +kernel
theorem dX13_init_312 : decode cX13_init 312 = .ok (.bipush 38, 2) := by decide +kernel
theorem dX13_init_314 : decode cX13_init 314 = .ok (.bipush 117, 2) := by decide +kernel
theorem dX13_init_316 : decode cX13_init 316 = .ok (.iastore, 1) := by decide +kernel
theorem dX13_init_317 : decode cX13_init 317 = .ok (.dup, 1) := by decide +kernel
theorem dX13_init_318 : decode cX13_init 318 = .ok (.bipush 39, 2) := by decide +kernel
theorem dX13_init_320 : decode cX13_init 320 = .ok (.bipush 108, 2) := by decide +kernel
theorem dX13_init_322 : decode cX13_init 322 = .ok (.iastore, 1) := by decide +kernel
theorem dX13_init_323 : decode cX13_init 323 = .ok (.dup, 1) := by decide +kernel
theorem dX13_init_324 : decode cX13_init 324 = .ok (.bipush 40, 2) := by decide +kernel
theorem dX13_init_326 : decode cX13_init 326 = .ok (.bipush 97, 2) := by decide +kernel
theorem dX13_init_328 : decode cX13_init 328 = .ok (.iastore, 1) := by decide +kernel
theorem dX13_init_329 : decode cX13_init 329 = .ok (.dup, 1) := by decide +kernel
theorem dX13_init_330 : decode cX13_init 330 = .ok (.bipush 41, 2) := by decide +kernel
theorem dX13_init_332 : decode cX13_init 332 = .ok (.bipush 116, 2) := by decide +kernel
theorem dX13_init_334 : decode cX13_init 334 = .ok (.iastore, 1) := by decide +kernel
theorem dX13_init_335 : decode cX13_init 335 = .ok (.dup, 1) := by decide +kernel
theorem dX13_init_336 : decode cX13_init 336 = .ok (.bipush 42, 2) := by decide +kernel
theorem dX13_init_338 : decode cX13_init 338 = .ok (.bipush 101, 2) := by decide +kernel
theorem dX13_init_340 : decode cX13_init 340 = .ok (.iastore, 1) := by decide +kernel
theorem dX13_init_341 : decode cX13_init 341 = .ok (.dup, 1) := by decide +kernel
theorem dX13_init_342 : decode cX13_init 342 = .ok (.bipush 43, 2) := by decide +kernel
theorem dX13_init_344 : decode cX13_init 344 = .ok (.bipush 32, 2) := by decide +kernel
theorem dX13_init_346 : decode cX13_init 346 = .ok (.iastore, 1) := by decide +kernel
theorem dX13_init_347 : decode cX13_init 347 = .ok (.dup, 1) := by decide +kernel
theorem dX13_init_348 : decode cX13_init 348 = .ok (.bipush 44, 2) := by decide +kernel
theorem dX13_init_350 : decode cX13_init 350 = .ok (.bipush 114, 2) := by decide +kernel
theorem dX13_init_352 : decode cX13_init 352 = .ok (.iastore, 1) := by decide +kernel
theorem dX13_init_353 : decode cX13_init 353 = .ok (.dup, 1) := by decide +kernel
theorem dX13_init_354 : decode cX13_init 354 = .ok (.bipush 45, 2) := by decide +kernel
theorem dX13_init_356 : decode cX13_init 356 = .ok (.bipush 101, 2) := by decide +kernel
theorem dX13_init_358 : decode cX13_init 358 = .ok (.iastore, 1) := by decide +kernel
theorem dX13_init_359 : decode cX13_init 359 = .ok (.dup, 1) := by decide +kernel
theorem dX13_init_360 : decode cX13_init 360 = .ok (.bipush 46, 2) := by decide +kernel
theorem dX13_init_362 : decode cX13_init 362 = .ok (.bipush 112, 2) := by decide +kernel
theorem dX13_init_364 : decode cX13_init 364 = .ok (.iastore, 1) := by decide +kernel
theorem dX13_init_365 : decode cX13_init 365 = .ok (.dup, 1) := by decide +kernel
theorem dX13_init_366 : decode cX13_init 366 = .ok (.bipush 47, 2) := by decide +kernel
theorem dX13_init_368 : decode cX13_init 368 = .ok (.bipush 101, 2) := by decide +kernel
theorem dX13_init_370 : decode cX13_init 370 = .ok (.iastore, 1) := by decide +kernel
theorem dX13_init_371 : decode cX13_init 371 = .ok (.dup, 1) := by decide +kernel
theorem dX13_init_372 : decode cX13_init 372 = .ok (.bipush 48, 2) := by decide +kernel
theorem dX13_init_374 : decode cX13_init 374 = .ok (.bipush 97, 2) := by decide +kernel
theorem dX13_init_376 : decode cX13_init 376 = .ok (.iastore, 1) := by decide +kernel
theorem dX13_init_377 : decode cX13_init 377 = .ok (.dup, 1) := by decide +kernel
theorem dX13_init_378 : decode cX13_init 378 = .ok (.bipush 49, 2) := by decide +kernel
theorem dX13_init_380 : decode cX13_init 380 = .ok (.bipush 116, 2) := by decide +kernel
theorem dX13_init_382 : decode cX13_init 382 = .ok (.iastore, 1) := by decide +kernel
theorem dX13_init_383 : decode cX13_init 383 = .ok (.dup, 1) := by decide +kernel
theorem dX13_init_384 : decode cX13_init 384 = .ok (.bipush 50, 2) := by decide +kernel
theorem dX13_init_386 : decode cX13_init 386 = .ok (.bipush 32, 2) := by decide +kernel
theorem dX13_init_388 : decode cX13_init 388 = .ok (.iastore, 1) := by decide +kernel
theorem dX13_init_389 : decode cX13_init 389 = .ok (.dup, 1) := by decide +kernel
theorem dX13_init_390 : decode cX13_init 390 = .ok (.bipush 51, 2) := by decide +kernel
theorem dX13_init_392 : decode cX13_init 392 = .ok (.bipush 112, 2) := by decide +kernel
theorem dX13_init_394 : decode cX13_init 394 = .ok (.iastore, 1) := by decide +kernel
theorem dX13_init_395 : decode cX13_init 395 = .ok (.dup, 1) := by decide +kernel
theorem dX13_init_396 : decode cX13_init 396 = .ok (.bipush 52, 2) := by decide +kernel
theorem dX13_init_398 : decode cX13_init 398 = .ok (.bipush 97, 2) := by decide +kernel
theorem dX13_init_400 : decode cX13_init 400 = .ok (.iastore, 1) := by decide +kernel
theorem dX13_init_401 : decode cX13_init 401 = .ok (.dup, 1) := by decide +kernel
theorem dX13_init_402 : decode cX13_init 402 = .ok (.bipush 53, 2) := by decide +kernel
theorem dX13_init_404 : decode cX13_init 404 = .ok (.bipush 115, 2) := by decide +kernel
theorem dX13_init_406 : decode cX13_init 406 = .ok (.iastore, 1) := by decide +kernel
theorem dX13_init_407 : decode cX13_init 407 = .ok (.dup, 1) := by decide +kernel
theorem dX13_init_408 : decode cX13_init 408 = .ok (.bipush 54, 2) := by decide +kernel
theorem dX13_init_410 : decode cX13_init 410 = .ok (.bipush 116, 2) := by decide +kernel
theorem dX13_init_412 : decode cX13_init 412 = .ok (.iastore, 1) := by decide +kernel
theorem dX13_init_413 : decode cX13_init 413 = .ok (.dup, 1) := by decide +kernel
theorem dX13_init_414 : decode cX13_init 414 = .ok (.bipush 55, 2) := by decide +kernel
theorem dX13_init_416 : decode cX13_init 416 = .ok (.bipush 101, 2) := by decide +kernel
theorem dX13_init_418 : decode cX13_init 418 = .ok (.iastore, 1) := by decide +kernel
theorem dX13_init_419 : decode cX13_init 419 = .ok (.dup, 1) := by decide +kernel
theorem dX13_init_420 : decode cX13_init 420 = .ok (.bipush 56, 2) := by decide +kernel
theorem dX13_init_422 : decode cX13_init 422 = .ok (.bipush 32, 2) := by decide +kernel
theorem dX13_init_424 : decode cX13_init 424 = .ok (.iastore, 1) := by decide +kernel
theorem dX13_init_425 : decode cX13_init 425 = .ok (.dup, 1) := by decide +kernel
theorem dX13_init_426 : decode cX13_init 426 = .ok (.bipush 57, 2) := by decide +kernel
theorem dX13_init_428 : decode cX13_init 428 = .ok (.bipush 109, 2) := by decide +kernel
theorem dX13_init_430 : decode cX13_init 430 = .ok (.iastore, 1) := by decide +kernel
theorem dX13_init_431 : decode cX13_init 431 = .ok (.dup, 1) := by decide +kernel
theorem dX13_init_432 : decode cX13_init 432 = .ok (.bipush 58, 2) := by decide +kernel
theorem dX13_init_434 : decode cX13_init 434 = .ok (.bipush 97, 2) := by decide +kernel
theorem dX13_init_436 : decode cX13_init 436 = .ok (.iastore, 1) := by decide +kernel
theorem dX13_init_437 : decode cX13_init 437 = .ok (.dup, 1) := by decide +kernel
theorem dX13_init_438 : decode cX13_init 438 = .ok (.bipush 59, 2) := by decide +kernel
theorem dX13_init_440 : decode cX13_init 440 = .ok (.bipush 114, 2) := by decide +kernel
theorem dX13_init_442 : decode cX13_init 442 = .ok (.iastore, 1) := by decide +kernel
theorem dX13_init_443 : decode cX13_init 443 = .ok (.dup, 1) := by decide +kernel
theorem dX13_init_444 : decode cX13_init 444 = .ok (.bipush 60, 2) := by decide +kernel
theorem dX13_init_446 : decode cX13_init 446 = .ok (.bipush 107, 2) := by decide +kernel
theorem dX13_init_448 : decode cX13_init 448 = .ok (.iastore, 1) := by decide +kernel
theorem dX13_init_449 : decode cX13_init 449 = .ok (.dup, 1) := by decide +kernel
theorem dX13_init_450 : decode cX13_init 450 = .ok (.bipush 61, 2) := by decide +kernel
theorem dX13_init_452 : decode cX13_init 452 = .ok (.bipush 32, 2) := by decide +kernel
theorem dX13_init_454 : decode cX13_init 454 = .ok (.iastore, 1) := by decide +kernel
theorem dX13_init_455 : decode cX13_init 455 = .ok (.dup, 1) := by decide +kernel
theorem dX13_init_456 : decode cX13_init 456 = .ok (.bipush 62, 2) := by decide +kernel
theorem dX13_init_458 : decode cX13_init 458 = .ok (.bipush 117, 2) := by decide +kernel
theorem dX13_init_460 : decode cX13_init 460 = .ok (.iastore, 1) := by decide +kernel
theorem dX13_init_461 : decode cX13_init 461 = .ok (.dup, 1) := by decide +kernel
theorem dX13_init_462 : decode cX13_init 462 = .ok (.bipush 63, 2) := by decide +kernel
theorem dX13_init_464 : decode cX13_init 464 = .ok (.bipush 110, 2) := by decide +kernel
theorem dX13_init_466 : decode cX13_init 466 = .ok (.iastore, 1) := by decide +kernel
theorem dX13_init_467 : decode cX13_init 467 = .ok (.dup, 1) := by decide +kernel
theorem dX13_init_468 : decode cX13_init 468 = .ok (.bipush 64, 2) := by decide +kernel
theorem dX13_init_470 : decode cX13_init 470 = .ok (.bipush 109, 2) := by decide +kernel
theorem dX13_init_472 : decode cX13_init 472 = .ok (.iastore, 1) := by decide +kernel
theorem dX13_init_473 : decode cX13_init 473 = .ok (.dup, 1) := by decide +kernel
theorem dX13_init_474 : decode cX13_init 474 = .ok (.bipush 65, 2) := by decide +kernel
theorem dX13_init_476 : decode cX13_init 476 = .ok (.bipush 97, 2) := by decide +kernel
theorem dX13_init_478 : decode cX13_init 478 = .ok (.iastore, 1) := by decide +kernel
theorem dX13_init_479 : decode cX13_init 479 = .ok (.dup, 1) := by decide +kernel
theorem dX13_init_480 : decode cX13_init 480 = .ok (.bipush 66, 2) := by decide +kernel
theorem dX13_init_482 : decode cX13_init 482 = .ok (.bipush 114, 2) := by decide +kernel
theorem dX13_init_484 : decode cX13_init 484 = .ok (.iastore, 1) := by decide +kernel
theorem dX13_init_485 : decode cX13_init 485 = .ok (.dup, 1) := by decide +kernel
theorem dX13_init_486 : decode cX13_init 486 = .ok (.bipush 67, 2) := by decide +kernel
theorem dX13_init_488 : decode cX13_init 488 = .ok (.bipush 107, 2) := by decide +kernel
theorem dX13_init_490 : decode cX13_init 490 = .ok (.iastore, 1) := by decide +kernel
theorem dX13_init_491 : decode cX13_init 491 = .ok (.dup, 1) := by decide +kernel
theorem dX13_init_492 : decode cX13_init 492 = .ok (.bipush 68, 2) := by decide +kernel
theorem dX13_init_494 : decode cX13_init 494 = .ok (.bipush 32, 2) := by decide +kernel
theorem dX13_init_496 : decode cX13_init 496 = .ok (.iastore, 1) := by decide +kernel
theorem dX13_init_497 : decode cX13_init 497 = .ok (.putfield 41, 3) := by decide +kernel
theorem dX13_init_500 : decode cX13_init 500 = .ok (.aload_n 0, 1) := by decide +kernel
theorem dX13_init_501 : decode cX13_init 501 = .ok (.bipush 12, 2) := by decide +kernel
theorem dX13_init_503 : decode cX13_init 503 = .ok (.newarray .int, 2) := by decide +kernel
theorem dX13_init_505 : decode cX13_init 505 = .ok (.dup, 1) := by decide +kernel
theorem dX13_init_506 : decode cX13_init 506 = .ok (.iconst 0, 1) := by decide +kernel
theorem dX13_init_507 : decode cX13_init 507 = .ok (.iconst 0, 1) := by decide +kernel
theorem dX13_init_508 : decode cX13_init 508 = .ok (.iastore, 1) := by decide +kernel
theorem dX13_init_509 : decode cX13_init 509 = .ok (.dup, 1) := by decide +kernel
theorem dX13_init_510 : decode cX13_init 510 = .ok (.iconst 1, 1) := by decide +kernel
theorem dX13_init_511 : decode cX13_init 511 = .ok (.iconst 5, 1) := by decide +kernel
theorem dX13_init_512 : decode cX13_init 512 = .ok (.iastore, 1) := by decide +kernel
theorem dX13_init_513 : decode cX13_init 513 = .ok (.dup, 1) := by decide +kernel
theorem dX13_init_514 : decode cX13_init 514 = .ok (.iconst 2, 1) := by decide +kernel
theorem dX13_init_515 : decode cX13_init 515 = .ok (.bipush 10, 2) := by decide +kernel
theorem dX13_init_517 : decode cX13_init 517 = .ok (.iastore, 1) := by decide +kernel
theorem dX13_init_518 : decode cX13_init 518 = .ok (.dup, 1) := by decide +kernel
theorem dX13_init_519 : decode cX13_init 519 = .ok (.iconst 3, 1) := by decide +kernel
theorem dX13_init_520 : decode cX13_init 520 = .ok (.bipush 17, 2) := by decide +kernel
theorem dX13_init_522 : decode cX13_init 522 = .ok (.iastore, 1) := by decide +kernel
theorem dX13_init_523 : decode cX13_init 523 = .ok (.dup, 1) := by decide +kernel
theorem dX13_init_524 : decode cX13_init 524 = .ok (.iconst 4, 1) := by decide +kernel
theorem dX13_init_525 : decode cX13_init 525 = .ok (.bipush 22, 2) := by decide +kernel
theorem dX13_init_527 : decode cX13_init 527 = .ok (.iastore, 1) := by decide +kernel
theorem dX13_init_528 : decode cX13_init 528 = .ok (.dup, 1) := by decide +kernel
theorem dX13_init_529 : decode cX13_init 529 = .ok (.iconst 5, 1) := by decide +kernel
theorem dX13_init_530 : decode cX13_init 530 = .ok (.bipush 30, 2) := by decide +kernel
theorem dX13_init_532 : decode cX13_init 532 = .ok (.iastore, 1) := by decide +kernel
theorem dX13_init_533 : decode cX13_init 533 = .ok (.dup, 1) := by decide +kernel
theorem dX13_init_534 : decode cX13_init 534 = .ok (.bipush 6, 2) := by decide +kernel
theorem dX13_init_536 : decode cX13_init 536 = .ok (.bipush 35, 2) := by decide +kernel
theorem dX13_init_538 : decode cX13_init 538 = .ok (.iastore, 1) := by decide +kernel
theorem dX13_init_539 : decode cX13_init 539 = .ok (.dup, 1) := by decide +kernel
theorem dX13_init_540 : decode cX13_init 540 = .ok (.bipush 7, 2) := by decide +kernel
theorem dX13_init_542 : decode cX13_init 542 = .ok (.bipush 44, 2) := by decide +kernel
theorem dX13_init_544 : decode cX13_init 544 = .ok (.iastore, 1) := by decide +kernel
theorem dX13_init_545 : decode cX13_init 545 = .ok (.dup, 1) := by decide +kernel
theorem dX13_init_546 : decode cX13_init 546 = .ok (.bipush 8, 2) := by decide +kernel
theorem dX13_init_548 : decode cX13_init 548 = .ok (.bipush 51, 2) := by decide +kernel
theorem dX13_init_550 : decode cX13_init 550 = .ok (.iastore, 1) := by decide +kernel
theorem dX13_init_551 : decode cX13_init 551 = .ok (.dup, 1) := by decide +kernel
theorem dX13_init_552 : decode cX13_init 552 = .ok (.bipush 9, 2) := by decide +kernel
theorem dX13_init_554 : decode cX13_init 554 = .ok (.bipush 57, 2) := by decide +kernel
theorem dX13_init_556 : decode cX13_init 556 = .ok (.iastore, 1) := by decide +kernel
theorem dX13_init_557 : decode cX13_init 557 = .ok (.dup, 1) := by decide +kernel
theorem dX13_init_558 : decode cX13_init 558 = .ok (.bipush 10, 2) := by decide +kernel
theorem dX13_init_560 : decode cX13_init 560 = .ok (.bipush 62, 2) := by decide +kernel
theorem dX13_init_562 : decode cX13_init 562 = .ok (.iastore, 1) := by decide +kernel
theorem dX13_init_563 : decode cX13_init 563 = .ok (.dup, 1) := by decide +kernel
theorem dX13_init_564 : decode cX13_init 564 = .ok (.bipush 11, 2) := by decide +kernel
theorem dX13_init_566 : decode cX13_init 566 = .ok (.bipush 69, 2) := by decide +kernel
theorem dX13_init_568 : decode cX13_init 568 = .ok (.iastore, 1) := by decide +kernel
theorem dX13_init_569 : decode cX13_init 569 = .ok (.putfield 44, 3) := by decide +kernel
theorem dX13_init_572 : decode cX13_init 572 = .ok (.return_, 1) := by decide +kernel
theorem dX13_thrown_0 : decode cX13_thrown 0 = .ok (.aload_n 0, 1) := by decide +kernel
theorem dX13_thrown_1 : decode cX13_thrown 1 = .ok (.getfield 47, 3) := by decide +kernel
theorem dX13_thrown_4 : decode cX13_thrown 4 = .ok (.ireturn, 1) := by decide +kernel
theorem dX13_fail_0 : decode cX13_fail 0 = .ok (.aload_n 0, 1) := by decide +kernel
theorem dX13_fail_1 : decode cX13_fail 1 = .ok (.iload_n 1, 1) := by decide +kernel
theorem dX13_fail_2 : decode cX13_fail 2 = .ok (.putfield 47, 3) := by decide +kernel
theorem dX13_fail_5 : decode cX13_fail 5 = .ok (.iconst 0, 1) := by decide +kernel
theorem dX13_fail_6 : decode cX13_fail 6 = .ok (.ireturn, 1) := by decide +kernel
theorem dX13_isIn_0 : decode cX13_isIn 0 = .ok (.iload_n 0, 1) := by decide +kernel
theorem dX13_isIn_1 : decode cX13_isIn 1 = .ok (.iload_n 1, 1) := by decide +kernel
theorem dX13_isIn_2 : decode cX13_isIn 2 = .ok (.if_icmp .lt 12, 3) := by decide +kernel
theorem dX13_isIn_5 : decode cX13_isIn 5 = .ok (.iload_n 0, 1) := by decide +kernel
theorem dX13_isIn_6 : decode cX13_isIn 6 = .ok (.iload_n 2, 1) := by decide +kernel
theorem dX13_isIn_7 : decode cX13_isIn 7 = .ok (.if_icmp .gt 7, 3) := by decide +kernel
theorem dX13_isIn_10 : decode cX13_isIn 10 = .ok (.iconst 1, 1) := by decide +kernel
theorem dX13_isIn_11 : decode cX13_isIn 11 = .ok (.goto 4, 3) := by decide +kernel
theorem dX13_isIn_14 : decode cX13_isIn 14 = .ok (.iconst 0, 1) := by decide +kernel
theorem dX13_isIn_15 : decode cX13_isIn 15 = .ok (.ireturn, 1) := by decide +kernel
theorem dX13_lays_0 : decode cX13_lays 0 = .ok (.iconst 0, 1) := by decide +kernel
theorem dX13_lays_1 : decode cX13_lays 1 = .ok (.istore_n 2, 1) := by decide +kernel
theorem dX13_lays_2 : decode cX13_lays 2 = .ok (.iload_n 2, 1) := by decide +kernel
theorem dX13_lays_3 : decode cX13_lays 3 = .ok (.sipush 410, 3) := by decide +kernel
theorem dX13_lays_6 : decode cX13_lays 6 = .ok (.if_icmp .ge 15, 3) := by decide +kernel
theorem dX13_lays_9 : decode cX13_lays 9 = .ok (.aload_n 0, 1) := by decide +kernel
theorem dX13_lays_10 : decode cX13_lays 10 = .ok (.iload_n 2, 1) := by decide +kernel
theorem dX13_lays_11 : decode cX13_lays 11 = .ok (.aload_n 1, 1) := by decide +kernel
theorem dX13_lays_12 : decode cX13_lays 12 = .ok (.iload_n 2, 1) := by decide +kernel
theorem dX13_lays_13 : decode cX13_lays 13 = .ok (.iaload, 1) := by decide +kernel
theorem dX13_lays_14 : decode cX13_lays 14 = .ok (.iastore, 1) := by decide +kernel
theorem dX13_lays_15 : decode cX13_lays 15 = .ok (.iinc 2 1, 3) := by decide +kernel
theorem dX13_lays_18 : decode cX13_lays 18 = .ok (.goto (-16), 3) := by decide +kernel
theorem dX13_lays_21 : decode cX13_lays 21 = .ok (.return_, 1) := by decide +kernel
theorem dX13_begins_0 : decode cX13_begins 0 = .ok (.aload_n 0, 1) := by decide +kernel
theorem dX13_begins_1 : decode cX13_begins 1 = .ok (.iconst 0, 1) := by decide +kernel
theorem dX13_begins_2 : decode cX13_begins 2 = .ok (.putfield 47, 3) := by decide +kernel
theorem dX13_begins_5 : decode cX13_begins 5 = .ok (.aload_n 0, 1) := by decide +kernel
theorem dX13_begins_6 : decode cX13_begins 6 = .ok (.getfield 20, 3) := by decide +kernel
theorem dX13_begins_9 : decode cX13_begins 9 = .ok (.aload_n 0, 1) := by decide +kernel
theorem dX13_begins_10 : decode cX13_begins 10 = .ok (.getfield 16, 3) := by decide +kernel
theorem dX13_begins_13 : decode cX13_begins 13 = .ok (.invokestatic 50, 3) := by decide +kernel
theorem dX13_begins_16 : decode cX13_begins 16 = .ok (.return_, 1) := by decide +kernel
theorem dX13_ends_0 : decode cX13_ends 0 = .ok (.aload_n 0, 1) := by decide +kernel
theorem dX13_ends_1 : decode cX13_ends 1 = .ok (.getfield 47, 3) := by decide +kernel
theorem dX13_ends_4 : decode cX13_ends 4 = .ok (.ifCond .eq 16, 3) := by decide +kernel
theorem dX13_ends_7 : decode cX13_ends 7 = .ok (.aload_n 0, 1) := by decide +kernel
theorem dX13_ends_8 : decode cX13_ends 8 = .ok (.getfield 16, 3) := by decide +kernel
theorem dX13_ends_11 : decode cX13_ends 11 = .ok (.aload_n 0, 1) := by decide +kernel
theorem dX13_ends_12 : decode cX13_ends 12 = .ok (.getfield 20, 3) := by decide +kernel
theorem dX13_ends_15 : decode cX13_ends 15 = .ok (.invokestatic 50, 3) := by decide +kernel
theorem dX13_ends_18 : decode cX13_ends 18 = .ok (.iconst 0, 1) := by decide +kernel
theorem dX13_ends_19 : decode cX13_ends 19 = .ok (.ireturn, 1) := by decide +kernel
theorem dX13_ends_20 : decode cX13_ends 20 = .ok (.aload_n 0, 1) := by decide +kernel
theorem dX13_ends_21 : decode cX13_ends 21 = .ok (.getfield 54, 3) := by decide +kernel
theorem dX13_ends_24 : decode cX13_ends 24 = .ok (.bipush 8, 2) := by decide +kernel
theorem dX13_ends_26 : decode cX13_ends 26 = .ok (.if_icmp .ne 44, 3) := by decide +kernel
theorem dX13_ends_29 : decode cX13_ends 29 = .ok (.iconst 0, 1) := by decide +kernel
theorem dX13_ends_30 : decode cX13_ends 30 = .ok (.istore_n 2, 1) := by decide +kernel
theorem dX13_ends_31 : decode cX13_ends 31 = .ok (.iload_n 2, 1) := by decide +kernel
theorem dX13_ends_32 : decode cX13_ends 32 = .ok (.sipush 2870, 3) := by decide +kernel
theorem dX13_ends_35 : decode cX13_ends 35 = .ok (.if_icmp .ge 25, 3) := by decide +kernel
theorem dX13_ends_38 : decode cX13_ends 38 = .ok (.aload_n 0, 1) := by decide +kernel
theorem dX13_ends_39 : decode cX13_ends 39 = .ok (.getfield 26, 3) := by decide +kernel
theorem dX13_ends_42 : decode cX13_ends 42 = .ok (.iload_n 2, 1) := by decide +kernel
theorem dX13_ends_43 : decode cX13_ends 43 = .ok (.aload_n 0, 1) := by decide +kernel
theorem dX13_ends_44 : decode cX13_ends 44 = .ok (.getfield 26, 3) := by decide +kernel
theorem dX13_ends_47 : decode cX13_ends 47 = .ok (.iload_n 2, 1) := by decide +kernel
theorem dX13_ends_48 : decode cX13_ends 48 = .ok (.sipush 410, 3) := by decide +kernel
theorem dX13_ends_51 : decode cX13_ends 51 = .ok (.iadd, 1) := by decide +kernel
theorem dX13_ends_52 : decode cX13_ends 52 = .ok (.iaload, 1) := by decide +kernel
theorem dX13_ends_53 : decode cX13_ends 53 = .ok (.iastore, 1) := by decide +kernel
theorem dX13_ends_54 : decode cX13_ends 54 = .ok (.iinc 2 1, 3) := by decide +kernel
theorem dX13_ends_57 : decode cX13_ends 57 = .ok (.goto (-26), 3) := by decide +kernel
theorem dX13_ends_60 : decode cX13_ends 60 = .ok (.aload_n 0, 1) := by decide +kernel
theorem dX13_ends_61 : decode cX13_ends 61 = .ok (.dup, 1) := by decide +kernel
theorem dX13_ends_62 : decode cX13_ends 62 = .ok (.getfield 54, 3) := by decide +kernel
theorem dX13_ends_65 : decode cX13_ends 65 = .ok (.iconst 1, 1) := by decide +kernel
theorem dX13_ends_66 : decode cX13_ends 66 = .ok (.isub, 1) := by decide +kernel
theorem dX13_ends_67 : decode cX13_ends 67 = .ok (.putfield 54, 3) := by decide +kernel
theorem dX13_ends_70 : decode cX13_ends 70 = .ok (.iconst 0, 1) := by decide +kernel
theorem dX13_ends_71 : decode cX13_ends 71 = .ok (.istore_n 2, 1) := by decide +kernel
theorem dX13_ends_72 : decode cX13_ends 72 = .ok (.iload_n 2, 1) := by decide +kernel
theorem dX13_ends_73 : decode cX13_ends 73 = .ok (.sipush 410, 3) := by decide +kernel
theorem dX13_ends_76 : decode cX13_ends 76 = .ok (.if_icmp .ge 30, 3) := by decide +kernel
theorem dX13_ends_79 : decode cX13_ends 79 = .ok (.aload_n 0, 1) := by decide +kernel
theorem dX13_ends_80 : decode cX13_ends 80 = .ok (.getfield 26, 3) := by decide +kernel
theorem dX13_ends_83 : decode cX13_ends 83 = .ok (.aload_n 0, 1) := by decide +kernel
theorem dX13_ends_84 : decode cX13_ends 84 = .ok (.getfield 54, 3) := by decide +kernel
theorem dX13_ends_87 : decode cX13_ends 87 = .ok (.sipush 410, 3) := by decide +kernel
theorem dX13_ends_90 : decode cX13_ends 90 = .ok (.imul, 1) := by decide +kernel
theorem dX13_ends_91 : decode cX13_ends 91 = .ok (.iload_n 2, 1) := by decide +kernel
theorem dX13_ends_92 : decode cX13_ends 92 = .ok (.iadd, 1) := by decide +kernel
theorem dX13_ends_93 : decode cX13_ends 93 = .ok (.aload_n 0, 1) := by decide +kernel
theorem dX13_ends_94 : decode cX13_ends 94 = .ok (.getfield 20, 3) := by decide +kernel
theorem dX13_ends_97 : decode cX13_ends 97 = .ok (.iload_n 2, 1) := by decide +kernel
theorem dX13_ends_98 : decode cX13_ends 98 = .ok (.iaload, 1) := by decide +kernel
theorem dX13_ends_99 : decode cX13_ends 99 = .ok (.iastore, 1) := by decide +kernel
theorem dX13_ends_100 : decode cX13_ends 100 = .ok (.iinc 2 1, 3) := by decide +kernel
theorem dX13_ends_103 : decode cX13_ends 103 = .ok (.goto (-31), 3) := by decide +kernel
theorem dX13_ends_106 : decode cX13_ends 106 = .ok (.aload_n 0, 1) := by decide +kernel
theorem dX13_ends_107 : decode cX13_ends 107 = .ok (.dup, 1) := by decide +kernel
theorem dX13_ends_108 : decode cX13_ends 108 = .ok (.getfield 54, 3) := by decide +kernel
theorem dX13_ends_111 : decode cX13_ends 111 = .ok (.iconst 1, 1) := by decide +kernel
theorem dX13_ends_112 : decode cX13_ends 112 = .ok (.iadd, 1) := by decide +kernel
theorem dX13_ends_113 : decode cX13_ends 113 = .ok (.putfield 54, 3) := by decide +kernel
theorem dX13_ends_116 : decode cX13_ends 116 = .ok (.iload_n 1, 1) := by decide +kernel
theorem dX13_ends_117 : decode cX13_ends 117 = .ok (.ireturn, 1) := by decide +kernel
theorem dX13_isInterval_0 : decode cX13_isInterval 0 = .ok (.iload_n 1, 1) := by decide +kernel
theorem dX13_isInterval_1 : decode cX13_isInterval 1 = .ok (.ifCond .lt 22, 3) := by decide +kernel
theorem dX13_isInterval_4 : decode cX13_isInterval 4 = .ok (.iload_n 1, 1) := by decide +kernel
theorem dX13_isInterval_5 : decode cX13_isInterval 5 = .ok (.iload_n 2, 1) := by decide +kernel
theorem dX13_isInterval_6 : decode cX13_isInterval 6 = .ok (.if_icmp .gt 17, 3) := by decide +kernel
theorem dX13_isInterval_9 : decode cX13_isInterval 9 = .ok (.iload_n 2, 1) := by decide +kernel
theorem dX13_isInterval_10 : decode cX13_isInterval 10 = .ok (.aload_n 0, 1) := by decide +kernel
theorem dX13_isInterval_11 : decode cX13_isInterval 11 = .ok (.getfield 16, 3) := by decide +kernel
theorem dX13_isInterval_14 : decode cX13_isInterval 14 = .ok (.iconst 0, 1) := by decide +kernel
theorem dX13_isInterval_15 : decode cX13_isInterval 15 = .ok (.iaload, 1) := by decide +kernel
theorem dX13_isInterval_16 : decode cX13_isInterval 16 = .ok (.if_icmp .gt 7, 3) := by decide +kernel
theorem dX13_isInterval_19 : decode cX13_isInterval 19 = .ok (.iconst 1, 1) := by decide +kernel
theorem dX13_isInterval_20 : decode cX13_isInterval 20 = .ok (.goto 4, 3) := by decide +kernel
theorem dX13_isInterval_23 : decode cX13_isInterval 23 = .ok (.iconst 0, 1) := by decide +kernel
theorem dX13_isInterval_24 : decode cX13_isInterval 24 = .ok (.ireturn, 1) := by decide +kernel
theorem dX13_level_0 : decode cX13_level 0 = .ok (.aload_n 0, 1) := by decide +kernel
theorem dX13_level_1 : decode cX13_level 1 = .ok (.getfield 16, 3) := by decide +kernel
theorem dX13_level_4 : decode cX13_level 4 = .ok (.iconst 4, 1) := by decide +kernel
theorem dX13_level_5 : decode cX13_level 5 = .ok (.iload_n 1, 1) := by decide +kernel
theorem dX13_level_6 : decode cX13_level 6 = .ok (.iadd, 1) := by decide +kernel
theorem dX13_level_7 : decode cX13_level 7 = .ok (.iaload, 1) := by decide +kernel
theorem dX13_level_8 : decode cX13_level 8 = .ok (.ireturn, 1) := by decide +kernel
theorem dX13_inserts_0 : decode cX13_inserts 0 = .ok (.aload_n 0, 1) := by decide +kernel
theorem dX13_inserts_1 : decode cX13_inserts 1 = .ok (.getfield 16, 3) := by decide +kernel
theorem dX13_inserts_4 : decode cX13_inserts 4 = .ok (.iconst 0, 1) := by decide +kernel
theorem dX13_inserts_5 : decode cX13_inserts 5 = .ok (.iaload, 1) := by decide +kernel
theorem dX13_inserts_6 : decode cX13_inserts 6 = .ok (.iconst 1, 1) := by decide +kernel
theorem dX13_inserts_7 : decode cX13_inserts 7 = .ok (.isub, 1) := by decide +kernel
theorem dX13_inserts_8 : decode cX13_inserts 8 = .ok (.istore_n 3, 1) := by decide +kernel
theorem dX13_inserts_9 : decode cX13_inserts 9 = .ok (.iload_n 3, 1) := by decide +kernel
theorem dX13_inserts_10 : decode cX13_inserts 10 = .ok (.iload_n 1, 1) := by decide +kernel
theorem dX13_inserts_11 : decode cX13_inserts 11 = .ok (.if_icmp .lt 27, 3) := by decide +kernel
theorem dX13_inserts_14 : decode cX13_inserts 14 = .ok (.aload_n 0, 1) := by decide +kernel
theorem dX13_inserts_15 : decode cX13_inserts 15 = .ok (.getfield 16, 3) := by decide +kernel
theorem dX13_inserts_18 : decode cX13_inserts 18 = .ok (.iconst 4, 1) := by decide +kernel
theorem dX13_inserts_19 : decode cX13_inserts 19 = .ok (.iload_n 3, 1) := by decide +kernel
theorem dX13_inserts_20 : decode cX13_inserts 20 = .ok (.iadd, 1) := by decide +kernel
theorem dX13_inserts_21 : decode cX13_inserts 21 = .ok (.iload_n 2, 1) := by decide +kernel
theorem dX13_inserts_22 : decode cX13_inserts 22 = .ok (.iadd, 1) := by decide +kernel
theorem dX13_inserts_23 : decode cX13_inserts 23 = .ok (.aload_n 0, 1) := by decide +kernel
theorem dX13_inserts_24 : decode cX13_inserts 24 = .ok (.getfield 16, 3) := by decide +kernel
theorem dX13_inserts_27 : decode cX13_inserts 27 = .ok (.iconst 4, 1) := by decide +kernel
theorem dX13_inserts_28 : decode cX13_inserts 28 = .ok (.iload_n 3, 1) := by decide +kernel
theorem dX13_inserts_29 : decode cX13_inserts 29 = .ok (.iadd, 1) := by decide +kernel
theorem dX13_inserts_30 : decode cX13_inserts 30 = .ok (.iaload, 1) := by decide +kernel
theorem dX13_inserts_31 : decode cX13_inserts 31 = .ok (.iastore, 1) := by decide +kernel
theorem dX13_inserts_32 : decode cX13_inserts 32 = .ok (.iinc 3 (-1), 3) := by decide +kernel
theorem dX13_inserts_35 : decode cX13_inserts 35 = .ok (.goto (-26), 3) := by decide +kernel
theorem dX13_inserts_38 : decode cX13_inserts 38 = .ok (.iload_n 1, 1) := by decide +kernel
theorem dX13_inserts_39 : decode cX13_inserts 39 = .ok (.istore_n 3, 1) := by decide +kernel
theorem dX13_inserts_40 : decode cX13_inserts 40 = .ok (.iload_n 3, 1) := by decide +kernel
theorem dX13_inserts_41 : decode cX13_inserts 41 = .ok (.iload_n 1, 1) := by decide +kernel
theorem dX13_inserts_42 : decode cX13_inserts 42 = .ok (.iload_n 2, 1) := by decide +kernel
theorem dX13_inserts_43 : decode cX13_inserts 43 = .ok (.iadd, 1) := by decide +kernel
theorem dX13_inserts_44 : decode cX13_inserts 44 = .ok (.if_icmp .ge 18, 3) := by decide +kernel
theorem dX13_inserts_47 : decode cX13_inserts 47 = .ok (.aload_n 0, 1) := by decide +kernel
theorem dX13_inserts_48 : decode cX13_inserts 48 = .ok (.getfield 16, 3) := by decide +kernel
theorem dX13_inserts_51 : decode cX13_inserts 51 = .ok (.iconst 4, 1) := by decide +kernel
theorem dX13_inserts_52 : decode cX13_inserts 52 = .ok (.iload_n 3, 1) := by decide +kernel
theorem dX13_inserts_53 : decode cX13_inserts 53 = .ok (.iadd, 1) := by decide +kernel
theorem dX13_inserts_54 : decode cX13_inserts 54 = .ok (.iconst 0, 1) := by decide +kernel
theorem dX13_inserts_55 : decode cX13_inserts 55 = .ok (.iastore, 1) := by decide +kernel
theorem dX13_inserts_56 : decode cX13_inserts 56 = .ok (.iinc 3 1, 3) := by decide +kernel
theorem dX13_inserts_59 : decode cX13_inserts 59 = .ok (.goto (-19), 3) := by decide +kernel
theorem dX13_inserts_62 : decode cX13_inserts 62 = .ok (.iconst 0, 1) := by decide +kernel
theorem dX13_inserts_63 : decode cX13_inserts 63 = .ok (.istore_n 3, 1) := by decide +kernel
theorem dX13_inserts_64 : decode cX13_inserts 64 = .ok (.iload_n 3, 1) := by decide +kernel
theorem dX13_inserts_65 : decode cX13_inserts 65 = .ok (.aload_n 0, 1) := by decide +kernel
theorem dX13_inserts_66 : decode cX13_inserts 66 = .ok (.getfield 16, 3) := by decide +kernel
theorem dX13_inserts_69 : decode cX13_inserts 69 = .ok (.iconst 1, 1) := by decide +kernel
theorem dX13_inserts_70 : decode cX13_inserts 70 = .ok (.iaload, 1) := by decide +kernel
theorem dX13_inserts_71 : decode cX13_inserts 71 = .ok (.if_icmp .ge 41, 3) := by decide +kernel
theorem dX13_inserts_74 : decode cX13_inserts 74 = .ok (.aload_n 0, 1) := by decide +kernel
theorem dX13_inserts_75 : decode cX13_inserts 75 = .ok (.getfield 16, 3) := by decide +kernel
theorem dX13_inserts_78 : decode cX13_inserts 78 = .ok (.sipush 204, 3) := by decide +kernel
theorem dX13_inserts_81 : decode cX13_inserts 81 = .ok (.iload_n 3, 1) := by decide +kernel
theorem dX13_inserts_82 : decode cX13_inserts 82 = .ok (.iadd, 1) := by decide +kernel
theorem dX13_inserts_83 : decode cX13_inserts 83 = .ok (.dup2, 1) := by decide +kernel
theorem dX13_inserts_84 : decode cX13_inserts 84 = .ok (.iaload, 1) := by decide +kernel
theorem dX13_inserts_85 : decode cX13_inserts 85 = .ok (.aload_n 0, 1) := by decide +kernel
theorem dX13_inserts_86 : decode cX13_inserts 86 = .ok (.getfield 16, 3) := by decide +kernel
theorem dX13_inserts_89 : decode cX13_inserts 89 = .ok (.sipush 204, 3) := by decide +kernel
theorem dX13_inserts_92 : decode cX13_inserts 92 = .ok (.iload_n 3, 1) := by decide +kernel
theorem dX13_inserts_93 : decode cX13_inserts 93 = .ok (.iadd, 1) := by decide +kernel
theorem dX13_inserts_94 : decode cX13_inserts 94 = .ok (.iaload, 1) := by decide +kernel
theorem dX13_inserts_95 : decode cX13_inserts 95 = .ok (.iload_n 1, 1) := by decide +kernel
theorem dX13_inserts_96 : decode cX13_inserts 96 = .ok (.if_icmp .le 7, 3) := by decide +kernel
theorem dX13_inserts_99 : decode cX13_inserts 99 = .ok (.iload_n 2, 1) := by decide +kernel
theorem dX13_inserts_100 : decode cX13_inserts 100 = .ok (.goto 4, 3) := by decide +kernel
theorem dX13_inserts_103 : decode cX13_inserts 103 = .ok (.iconst 0, 1) := by decide +kernel
theorem dX13_inserts_104 : decode cX13_inserts 104 = .ok (.iadd, 1) := by decide +kernel
theorem dX13_inserts_105 : decode cX13_inserts 105 = .ok (.iastore, 1) := by decide +kernel
theorem dX13_inserts_106 : decode cX13_inserts 106 = .ok (.iinc 3 1, 3) := by decide +kernel
theorem dX13_inserts_109 : decode cX13_inserts 109 = .ok (.goto (-45), 3) := by decide +kernel
theorem dX13_inserts_112 : decode cX13_inserts 112 = .ok (.aload_n 0, 1) := by decide +kernel
theorem dX13_inserts_113 : decode cX13_inserts 113 = .ok (.getfield 16, 3) := by decide +kernel
theorem dX13_inserts_116 : decode cX13_inserts 116 = .ok (.iconst 0, 1) := by decide +kernel
theorem dX13_inserts_117 : decode cX13_inserts 117 = .ok (.dup2, 1) := by decide +kernel
theorem dX13_inserts_118 : decode cX13_inserts 118 = .ok (.iaload, 1) := by decide +kernel
theorem dX13_inserts_119 : decode cX13_inserts 119 = .ok (.iload_n 2, 1) := by decide +kernel
theorem dX13_inserts_120 : decode cX13_inserts 120 = .ok (.iadd, 1) := by decide +kernel
theorem dX13_inserts_121 : decode cX13_inserts 121 = .ok (.iastore, 1) := by decide +kernel
theorem dX13_inserts_122 : decode cX13_inserts 122 = .ok (.return_, 1) := by decide +kernel
theorem dX13_passes_0 : decode cX13_passes 0 = .ok (.iload_n 1, 1) := by decide +kernel
theorem dX13_passes_1 : decode cX13_passes 1 = .ok (.iconst 0, 1) := by decide +kernel
theorem dX13_passes_2 : decode cX13_passes 2 = .ok (.sipush 199, 3) := by decide +kernel
theorem dX13_passes_5 : decode cX13_passes 5 = .ok (.invokestatic 57, 3) := by decide +kernel
theorem dX13_passes_8 : decode cX13_passes 8 = .ok (.ifCond .eq 23, 3) := by decide +kernel
theorem dX13_passes_11 : decode cX13_passes 11 = .ok (.iload_n 2, 1) := by decide +kernel
theorem dX13_passes_12 : decode cX13_passes 12 = .ok (.iconst 1, 1) := by decide +kernel
theorem dX13_passes_13 : decode cX13_passes 13 = .ok (.bipush 50, 2) := by decide +kernel
theorem dX13_passes_15 : decode cX13_passes 15 = .ok (.invokestatic 57, 3) := by decide +kernel
theorem dX13_passes_18 : decode cX13_passes 18 = .ok (.ifCond .eq 13, 3) := by decide +kernel
theorem dX13_passes_21 : decode cX13_passes 21 = .ok (.iload_n 3, 1) := by decide +kernel
theorem dX13_passes_22 : decode cX13_passes 22 = .ok (.iconst 1, 1) := by decide +kernel
theorem dX13_passes_23 : decode cX13_passes 23 = .ok (.bipush 9, 2) := by decide +kernel
theorem dX13_passes_25 : decode cX13_passes 25 = .ok (.invokestatic 57, 3) := by decide +kernel
theorem dX13_passes_28 : decode cX13_passes 28 = .ok (.ifCond .ne 9, 3) := by decide +kernel
theorem dX13_passes_31 : decode cX13_passes 31 = .ok (.aload_n 0, 1) := by decide +kernel
theorem dX13_passes_32 : decode cX13_passes 32 = .ok (.iconst 1, 1) := by decide +kernel
theorem dX13_passes_33 : decode cX13_passes 33 = .ok (.invokevirtual 61, 3) := by decide +kernel
theorem dX13_passes_36 : decode cX13_passes 36 = .ok (.ireturn, 1) := by decide +kernel
theorem dX13_passes_37 : decode cX13_passes 37 = .ok (.iload_n 1, 1) := by decide +kernel
theorem dX13_passes_38 : decode cX13_passes 38 = .ok (.iload_n 2, 1) := by decide +kernel
theorem dX13_passes_39 : decode cX13_passes 39 = .ok (.iadd, 1) := by decide +kernel
theorem dX13_passes_40 : decode cX13_passes 40 = .ok (.sipush 200, 3) := by decide +kernel
theorem dX13_passes_43 : decode cX13_passes 43 = .ok (.if_icmp .le 9, 3) := by decide +kernel
theorem dX13_passes_46 : decode cX13_passes 46 = .ok (.aload_n 0, 1) := by decide +kernel
theorem dX13_passes_47 : decode cX13_passes 47 = .ok (.iconst 2, 1) := by decide +kernel
theorem dX13_passes_48 : decode cX13_passes 48 = .ok (.invokevirtual 61, 3) := by decide +kernel
theorem dX13_passes_51 : decode cX13_passes 51 = .ok (.ireturn, 1) := by decide +kernel
theorem dX13_passes_52 : decode cX13_passes 52 = .ok (.aload_n 0, 1) := by decide +kernel
theorem dX13_passes_53 : decode cX13_passes 53 = .ok (.getfield 16, 3) := by decide +kernel
theorem dX13_passes_56 : decode cX13_passes 56 = .ok (.iconst 0, 1) := by decide +kernel
theorem dX13_passes_57 : decode cX13_passes 57 = .ok (.iaload, 1) := by decide +kernel
theorem dX13_passes_58 : decode cX13_passes 58 = .ok (.iload_n 1, 1) := by decide +kernel
theorem dX13_passes_59 : decode cX13_passes 59 = .ok (.iload_n 2, 1) := by decide +kernel
theorem dX13_passes_60 : decode cX13_passes 60 = .ok (.iadd, 1) := by decide +kernel
theorem dX13_passes_61 : decode cX13_passes 61 = .ok (.if_icmp .ge 12, 3) := by decide +kernel
theorem dX13_passes_64 : decode cX13_passes 64 = .ok (.aload_n 0, 1) := by decide +kernel
theorem dX13_passes_65 : decode cX13_passes 65 = .ok (.getfield 16, 3) := by decide +kernel
theorem dX13_passes_68 : decode cX13_passes 68 = .ok (.iconst 0, 1) := by decide +kernel
theorem dX13_passes_69 : decode cX13_passes 69 = .ok (.iload_n 1, 1) := by decide +kernel
theorem dX13_passes_70 : decode cX13_passes 70 = .ok (.iload_n 2, 1) := by decide +kernel
theorem dX13_passes_71 : decode cX13_passes 71 = .ok (.iadd, 1) := by decide +kernel
theorem dX13_passes_72 : decode cX13_passes 72 = .ok (.iastore, 1) := by decide +kernel
theorem dX13_passes_73 : decode cX13_passes 73 = .ok (.iconst 0, 1) := by decide +kernel
theorem dX13_passes_74 : decode cX13_passes 74 = .ok (.istore 4, 2) := by decide +kernel
theorem dX13_passes_76 : decode cX13_passes 76 = .ok (.iload_n 1, 1) := by decide +kernel
theorem dX13_passes_77 : decode cX13_passes 77 = .ok (.istore 5, 2) := by decide +kernel
theorem dX13_passes_79 : decode cX13_passes 79 = .ok (.iload 5, 2) := by decide +kernel
theorem dX13_passes_81 : decode cX13_passes 81 = .ok (.iload_n 1, 1) := by decide +kernel
theorem dX13_passes_82 : decode cX13_passes 82 = .ok (.iload_n 2, 1) := by decide +kernel
theorem dX13_passes_83 : decode cX13_passes 83 = .ok (.iadd, 1) := by decide +kernel
theorem dX13_passes_84 : decode cX13_passes 84 = .ok (.if_icmp .ge 35, 3) := by decide +kernel
theorem dX13_passes_87 : decode cX13_passes 87 = .ok (.aload_n 0, 1) := by decide +kernel
theorem dX13_passes_88 : decode cX13_passes 88 = .ok (.iload 5, 2) := by decide +kernel
theorem dX13_passes_90 : decode cX13_passes 90 = .ok (.invokevirtual 65, 3) := by decide +kernel
theorem dX13_passes_93 : decode cX13_passes 93 = .ok (.iload_n 3, 1) := by decide +kernel
theorem dX13_passes_94 : decode cX13_passes 94 = .ok (.if_icmp .lt 6, 3) := by decide +kernel
theorem dX13_passes_97 : decode cX13_passes 97 = .ok (.goto 16, 3) := by decide +kernel
theorem dX13_passes_100 : decode cX13_passes 100 = .ok (.aload_n 0, 1) := by decide +kernel
theorem dX13_passes_101 : decode cX13_passes 101 = .ok (.getfield 16, 3) := by decide +kernel
theorem dX13_passes_104 : decode cX13_passes 104 = .ok (.iconst 4, 1) := by decide +kernel
theorem dX13_passes_105 : decode cX13_passes 105 = .ok (.iload 5, 2) := by decide +kernel
theorem dX13_passes_107 : decode cX13_passes 107 = .ok (.iadd, 1) := by decide +kernel
theorem dX13_passes_108 : decode cX13_passes 108 = .ok (.iload_n 3, 1) := by decide +kernel
theorem dX13_passes_109 : decode cX13_passes 109 = .ok (.iastore, 1) := by decide +kernel
theorem dX13_passes_110 : decode cX13_passes 110 = .ok (.iinc 4 1, 3) := by decide +kernel
theorem dX13_passes_113 : decode cX13_passes 113 = .ok (.iinc 5 1, 3) := by decide +kernel
theorem dX13_passes_116 : decode cX13_passes 116 = .ok (.goto (-37), 3) := by decide +kernel
theorem dX13_passes_119 : decode cX13_passes 119 = .ok (.aload_n 0, 1) := by decide +kernel
theorem dX13_passes_120 : decode cX13_passes 120 = .ok (.getfield 16, 3) := by decide +kernel
theorem dX13_passes_123 : decode cX13_passes 123 = .ok (.iconst 3, 1) := by decide +kernel
theorem dX13_passes_124 : decode cX13_passes 124 = .ok (.dup2, 1) := by decide +kernel
theorem dX13_passes_125 : decode cX13_passes 125 = .ok (.iaload, 1) := by decide +kernel
theorem dX13_passes_126 : decode cX13_passes 126 = .ok (.iconst 1, 1) := by decide +kernel
theorem dX13_passes_127 : decode cX13_passes 127 = .ok (.iadd, 1) := by decide +kernel
theorem dX13_passes_128 : decode cX13_passes 128 = .ok (.iastore, 1) := by decide +kernel
theorem dX13_passes_129 : decode cX13_passes 129 = .ok (.iload 4, 2) := by decide +kernel
theorem dX13_passes_131 : decode cX13_passes 131 = .ok (.ireturn, 1) := by decide +kernel
theorem dX13_pass_0 : decode cX13_pass 0 = .ok (.aload_n 0, 1) := by decide +kernel
theorem dX13_pass_1 : decode cX13_pass 1 = .ok (.invokevirtual 68, 3) := by decide +kernel
theorem dX13_pass_4 : decode cX13_pass 4 = .ok (.aload_n 0, 1) := by decide +kernel
theorem dX13_pass_5 : decode cX13_pass 5 = .ok (.aload_n 0, 1) := by decide +kernel
theorem dX13_pass_6 : decode cX13_pass 6 = .ok (.iload_n 1, 1) := by decide +kernel
theorem dX13_pass_7 : decode cX13_pass 7 = .ok (.iload_n 2, 1) := by decide +kernel
theorem dX13_pass_8 : decode cX13_pass 8 = .ok (.iload_n 3, 1) := by decide +kernel
theorem dX13_pass_9 : decode cX13_pass 9 = .ok (.invokevirtual 71, 3) := by decide +kernel
theorem dX13_pass_12 : decode cX13_pass 12 = .ok (.invokevirtual 75, 3) := by decide +kernel
theorem dX13_pass_15 : decode cX13_pass 15 = .ok (.ireturn, 1) := by decide +kernel
theorem dX13_rests_0 : decode cX13_rests 0 = .ok (.iload_n 1, 1) := by decide +kernel
theorem dX13_rests_1 : decode cX13_rests 1 = .ok (.iconst 0, 1) := by decide +kernel
theorem dX13_rests_2 : decode cX13_rests 2 = .ok (.aload_n 0, 1) := by decide +kernel
theorem dX13_rests_3 : decode cX13_rests 3 = .ok (.getfield 16, 3) := by decide +kernel
theorem dX13_rests_6 : decode cX13_rests 6 = .ok (.iconst 0, 1) := by decide +kernel
theorem dX13_rests_7 : decode cX13_rests 7 = .ok (.iaload, 1) := by decide +kernel
theorem dX13_rests_8 : decode cX13_rests 8 = .ok (.invokestatic 57, 3) := by decide +kernel
theorem dX13_rests_11 : decode cX13_rests 11 = .ok (.ifCond .ne 9, 3) := by decide +kernel
theorem dX13_rests_14 : decode cX13_rests 14 = .ok (.aload_n 0, 1) := by decide +kernel
theorem dX13_rests_15 : decode cX13_rests 15 = .ok (.iconst 1, 1) := by decide +kernel
theorem dX13_rests_16 : decode cX13_rests 16 = .ok (.invokevirtual 61, 3) := by decide +kernel
theorem dX13_rests_19 : decode cX13_rests 19 = .ok (.ireturn, 1) := by decide +kernel
theorem dX13_rests_20 : decode cX13_rests 20 = .ok (.iload_n 2, 1) := by decide +kernel
theorem dX13_rests_21 : decode cX13_rests 21 = .ok (.iconst 1, 1) := by decide +kernel
theorem dX13_rests_22 : decode cX13_rests 22 = .ok (.bipush 50, 2) := by decide +kernel
theorem dX13_rests_24 : decode cX13_rests 24 = .ok (.invokestatic 57, 3) := by decide +kernel
theorem dX13_rests_27 : decode cX13_rests 27 = .ok (.ifCond .ne 9, 3) := by decide +kernel
theorem dX13_rests_30 : decode cX13_rests 30 = .ok (.aload_n 0, 1) := by decide +kernel
theorem dX13_rests_31 : decode cX13_rests 31 = .ok (.iconst 2, 1) := by decide +kernel
theorem dX13_rests_32 : decode cX13_rests 32 = .ok (.invokevirtual 61, 3) := by decide +kernel
theorem dX13_rests_35 : decode cX13_rests 35 = .ok (.ireturn, 1) := by decide +kernel
theorem dX13_rests_36 : decode cX13_rests 36 = .ok (.aload_n 0, 1) := by decide +kernel
theorem dX13_rests_37 : decode cX13_rests 37 = .ok (.getfield 16, 3) := by decide +kernel
theorem dX13_rests_40 : decode cX13_rests 40 = .ok (.iconst 0, 1) := by decide +kernel
theorem dX13_rests_41 : decode cX13_rests 41 = .ok (.iaload, 1) := by decide +kernel
theorem dX13_rests_42 : decode cX13_rests 42 = .ok (.iload_n 2, 1) := by decide +kernel
theorem dX13_rests_43 : decode cX13_rests 43 = .ok (.iadd, 1) := by decide +kernel
theorem dX13_rests_44 : decode cX13_rests 44 = .ok (.sipush 200, 3) := by decide +kernel
theorem dX13_rests_47 : decode cX13_rests 47 = .ok (.if_icmp .le 9, 3) := by decide +kernel
theorem dX13_rests_50 : decode cX13_rests 50 = .ok (.aload_n 0, 1) := by decide +kernel
theorem dX13_rests_51 : decode cX13_rests 51 = .ok (.iconst 3, 1) := by decide +kernel
theorem dX13_rests_52 : decode cX13_rests 52 = .ok (.invokevirtual 61, 3) := by decide +kernel
theorem dX13_rests_55 : decode cX13_rests 55 = .ok (.ireturn, 1) := by decide +kernel
theorem dX13_rests_56 : decode cX13_rests 56 = .ok (.aload_n 0, 1) := by decide +kernel
theorem dX13_rests_57 : decode cX13_rests 57 = .ok (.iload_n 1, 1) := by decide +kernel
theorem dX13_rests_58 : decode cX13_rests 58 = .ok (.iload_n 2, 1) := by decide +kernel
theorem dX13_rests_59 : decode cX13_rests 59 = .ok (.invokevirtual 78, 3) := by decide +kernel
theorem dX13_rests_62 : decode cX13_rests 62 = .ok (.aload_n 0, 1) := by decide +kernel
theorem dX13_rests_63 : decode cX13_rests 63 = .ok (.getfield 16, 3) := by decide +kernel
theorem dX13_rests_66 : decode cX13_rests 66 = .ok (.iconst 0, 1) := by decide +kernel
theorem dX13_rests_67 : decode cX13_rests 67 = .ok (.iaload, 1) := by decide +kernel
theorem dX13_rests_68 : decode cX13_rests 68 = .ok (.ireturn, 1) := by decide +kernel
theorem dX13_insertRest_0 : decode cX13_insertRest 0 = .ok (.aload_n 0, 1) := by decide +kernel
theorem dX13_insertRest_1 : decode cX13_insertRest 1 = .ok (.invokevirtual 68, 3) := by decide +kernel
theorem dX13_insertRest_4 : decode cX13_insertRest 4 = .ok (.aload_n 0, 1) := by decide +kernel
theorem dX13_insertRest_5 : decode cX13_insertRest 5 = .ok (.aload_n 0, 1) := by decide +kernel
theorem dX13_insertRest_6 : decode cX13_insertRest 6 = .ok (.iload_n 1, 1) := by decide +kernel
theorem dX13_insertRest_7 : decode cX13_insertRest 7 = .ok (.iload_n 2, 1) := by decide +kernel
theorem dX13_insertRest_8 : decode cX13_insertRest 8 = .ok (.invokevirtual 82, 3) := by decide +kernel
theorem dX13_insertRest_11 : decode cX13_insertRest 11 = .ok (.invokevirtual 75, 3) := by decide +kernel
theorem dX13_insertRest_14 : decode cX13_insertRest 14 = .ok (.ireturn, 1) := by decide +kernel
theorem dX13_dropsMarker_0 : decode cX13_dropsMarker 0 = .ok (.iload_n 1, 1) := by decide +kernel
theorem dX13_dropsMarker_1 : decode cX13_dropsMarker 1 = .ok (.istore_n 2, 1) := by decide +kernel
theorem dX13_dropsMarker_2 : decode cX13_dropsMarker 2 = .ok (.iload_n 2, 1) := by decide +kernel
theorem dX13_dropsMarker_3 : decode cX13_dropsMarker 3 = .ok (.aload_n 0, 1) := by decide +kernel
theorem dX13_dropsMarker_4 : decode cX13_dropsMarker 4 = .ok (.getfield 16, 3) := by decide +kernel
theorem dX13_dropsMarker_7 : decode cX13_dropsMarker 7 = .ok (.iconst 1, 1) := by decide +kernel
theorem dX13_dropsMarker_8 : decode cX13_dropsMarker 8 = .ok (.iaload, 1) := by decide +kernel
theorem dX13_dropsMarker_9 : decode cX13_dropsMarker 9 = .ok (.iconst 1, 1) := by decide +kernel
theorem dX13_dropsMarker_10 : decode cX13_dropsMarker 10 = .ok (.isub, 1) := by decide +kernel
theorem dX13_dropsMarker_11 : decode cX13_dropsMarker 11 = .ok (.if_icmp .ge 31, 3) := by decide +kernel
theorem dX13_dropsMarker_14 : decode cX13_dropsMarker 14 = .ok (.aload_n 0, 1) := by decide +kernel
theorem dX13_dropsMarker_15 : decode cX13_dropsMarker 15 = .ok (.getfield 16, 3) := by decide +kernel
theorem dX13_dropsMarker_18 : decode cX13_dropsMarker 18 = .ok (.sipush 204, 3) := by decide +kernel
theorem dX13_dropsMarker_21 : decode cX13_dropsMarker 21 = .ok (.iload_n 2, 1) := by decide +kernel
theorem dX13_dropsMarker_22 : decode cX13_dropsMarker 22 = .ok (.iadd, 1) := by decide +kernel
theorem dX13_dropsMarker_23 : decode cX13_dropsMarker 23 = .ok (.aload_n 0, 1) := by decide +kernel
theorem dX13_dropsMarker_24 : decode cX13_dropsMarker 24 = .ok (.getfield 16, 3) := by decide +kernel
theorem dX13_dropsMarker_27 : decode cX13_dropsMarker 27 = .ok (.sipush 204, 3) := by decide +kernel
theorem dX13_dropsMarker_30 : decode cX13_dropsMarker 30 = .ok (.iload_n 2, 1) := by decide +kernel
theorem dX13_dropsMarker_31 : decode cX13_dropsMarker 31 = .ok (.iadd, 1) := by decide +kernel
theorem dX13_dropsMarker_32 : decode cX13_dropsMarker 32 = .ok (.iconst 1, 1) := by decide +kernel
theorem dX13_dropsMarker_33 : decode cX13_dropsMarker 33 = .ok (.iadd, 1) := by decide +kernel
theorem dX13_dropsMarker_34 : decode cX13_dropsMarker 34 = .ok (.iaload, 1) := by decide +kernel
theorem dX13_dropsMarker_35 : decode cX13_dropsMarker 35 = .ok (.iastore, 1) := by decide +kernel
theorem dX13_dropsMarker_36 : decode cX13_dropsMarker 36 = .ok (.iinc 2 1, 3) := by decide +kernel
theorem dX13_dropsMarker_39 : decode cX13_dropsMarker 39 = .ok (.goto (-37), 3) := by decide +kernel
theorem dX13_dropsMarker_42 : decode cX13_dropsMarker 42 = .ok (.aload_n 0, 1) := by decide +kernel
theorem dX13_dropsMarker_43 : decode cX13_dropsMarker 43 = .ok (.getfield 16, 3) := by decide +kernel
theorem dX13_dropsMarker_46 : decode cX13_dropsMarker 46 = .ok (.iconst 1, 1) := by decide +kernel
theorem dX13_dropsMarker_47 : decode cX13_dropsMarker 47 = .ok (.dup2, 1) := by decide +kernel
theorem dX13_dropsMarker_48 : decode cX13_dropsMarker 48 = .ok (.iaload, 1) := by decide +kernel
theorem dX13_dropsMarker_49 : decode cX13_dropsMarker 49 = .ok (.iconst 1, 1) := by decide +kernel
theorem dX13_dropsMarker_50 : decode cX13_dropsMarker 50 = .ok (.isub, 1) := by decide +kernel
theorem dX13_dropsMarker_51 : decode cX13_dropsMarker 51 = .ok (.iastore, 1) := by decide +kernel
theorem dX13_dropsMarker_52 : decode cX13_dropsMarker 52 = .ok (.aload_n 0, 1) := by decide +kernel
theorem dX13_dropsMarker_53 : decode cX13_dropsMarker 53 = .ok (.getfield 16, 3) := by decide +kernel
theorem dX13_dropsMarker_56 : decode cX13_dropsMarker 56 = .ok (.sipush 204, 3) := by decide +kernel
theorem dX13_dropsMarker_59 : decode cX13_dropsMarker 59 = .ok (.aload_n 0, 1) := by decide +kernel
theorem dX13_dropsMarker_60 : decode cX13_dropsMarker 60 = .ok (.getfield 16, 3) := by decide +kernel
theorem dX13_dropsMarker_63 : decode cX13_dropsMarker 63 = .ok (.iconst 1, 1) := by decide +kernel
theorem dX13_dropsMarker_64 : decode cX13_dropsMarker 64 = .ok (.iaload, 1) := by decide +kernel
theorem dX13_dropsMarker_65 : decode cX13_dropsMarker 65 = .ok (.iadd, 1) := by decide +kernel
theorem dX13_dropsMarker_66 : decode cX13_dropsMarker 66 = .ok (.iconst 0, 1) := by decide +kernel
theorem dX13_dropsMarker_67 : decode cX13_dropsMarker 67 = .ok (.iastore, 1) := by decide +kernel
theorem dX13_dropsMarker_68 : decode cX13_dropsMarker 68 = .ok (.return_, 1) := by decide +kernel
theorem dX13_markerAt_0 : decode cX13_markerAt 0 = .ok (.iconst 0, 1) := by decide +kernel
theorem dX13_markerAt_1 : decode cX13_markerAt 1 = .ok (.istore_n 2, 1) := by decide +kernel
theorem dX13_markerAt_2 : decode cX13_markerAt 2 = .ok (.iload_n 2, 1) := by decide +kernel
theorem dX13_markerAt_3 : decode cX13_markerAt 3 = .ok (.aload_n 0, 1) := by decide +kernel
theorem dX13_markerAt_4 : decode cX13_markerAt 4 = .ok (.getfield 16, 3) := by decide +kernel
theorem dX13_markerAt_7 : decode cX13_markerAt 7 = .ok (.iconst 1, 1) := by decide +kernel
theorem dX13_markerAt_8 : decode cX13_markerAt 8 = .ok (.iaload, 1) := by decide +kernel
theorem dX13_markerAt_9 : decode cX13_markerAt 9 = .ok (.if_icmp .ge 25, 3) := by decide +kernel
theorem dX13_markerAt_12 : decode cX13_markerAt 12 = .ok (.aload_n 0, 1) := by decide +kernel
theorem dX13_markerAt_13 : decode cX13_markerAt 13 = .ok (.getfield 16, 3) := by decide +kernel
theorem dX13_markerAt_16 : decode cX13_markerAt 16 = .ok (.sipush 204, 3) := by decide +kernel
theorem dX13_markerAt_19 : decode cX13_markerAt 19 = .ok (.iload_n 2, 1) := by decide +kernel
theorem dX13_markerAt_20 : decode cX13_markerAt 20 = .ok (.iadd, 1) := by decide +kernel
theorem dX13_markerAt_21 : decode cX13_markerAt 21 = .ok (.iaload, 1) := by decide +kernel
theorem dX13_markerAt_22 : decode cX13_markerAt 22 = .ok (.iload_n 1, 1) := by decide +kernel
theorem dX13_markerAt_23 : decode cX13_markerAt 23 = .ok (.if_icmp .ne 5, 3) := by decide +kernel
theorem dX13_markerAt_26 : decode cX13_markerAt 26 = .ok (.iload_n 2, 1) := by decide +kernel
theorem dX13_markerAt_27 : decode cX13_markerAt 27 = .ok (.ireturn, 1) := by decide +kernel
theorem dX13_markerAt_28 : decode cX13_markerAt 28 = .ok (.iinc 2 1, 3) := by decide +kernel
theorem dX13_markerAt_31 : decode cX13_markerAt 31 = .ok (.goto (-29), 3) := by decide +kernel
theorem dX13_markerAt_34 : decode cX13_markerAt 34 = .ok (.iconst (-1), 1) := by decide +kernel
theorem dX13_markerAt_35 : decode cX13_markerAt 35 = .ok (.ireturn, 1) := by decide +kernel
theorem dX13_removes_0 : decode cX13_removes 0 = .ok (.aload_n 0, 1) := by decide +kernel
theorem dX13_removes_1 : decode cX13_removes 1 = .ok (.iload_n 1, 1) := by decide +kernel
theorem dX13_removes_2 : decode cX13_removes 2 = .ok (.iload_n 2, 1) := by decide +kernel
theorem dX13_removes_3 : decode cX13_removes 3 = .ok (.invokevirtual 86, 3) := by decide +kernel
theorem dX13_removes_6 : decode cX13_removes 6 = .ok (.ifCond .ne 9, 3) := by decide +kernel
theorem dX13_removes_9 : decode cX13_removes 9 = .ok (.aload_n 0, 1) := by decide +kernel
theorem dX13_removes_10 : decode cX13_removes 10 = .ok (.iconst 1, 1) := by decide +kernel
theorem dX13_removes_11 : decode cX13_removes 11 = .ok (.invokevirtual 61, 3) := by decide +kernel
theorem dX13_removes_14 : decode cX13_removes 14 = .ok (.ireturn, 1) := by decide +kernel
theorem dX13_removes_15 : decode cX13_removes 15 = .ok (.iload_n 2, 1) := by decide +kernel
theorem dX13_removes_16 : decode cX13_removes 16 = .ok (.iload_n 1, 1) := by decide +kernel
theorem dX13_removes_17 : decode cX13_removes 17 = .ok (.isub, 1) := by decide +kernel
theorem dX13_removes_18 : decode cX13_removes 18 = .ok (.istore_n 3, 1) := by decide +kernel
theorem dX13_removes_19 : decode cX13_removes 19 = .ok (.iload_n 3, 1) := by decide +kernel
theorem dX13_removes_20 : decode cX13_removes 20 = .ok (.ifCond .ne 10, 3) := by decide +kernel
theorem dX13_removes_23 : decode cX13_removes 23 = .ok (.aload_n 0, 1) := by decide +kernel
theorem dX13_removes_24 : decode cX13_removes 24 = .ok (.getfield 16, 3) := by decide +kernel
theorem dX13_removes_27 : decode cX13_removes 27 = .ok (.iconst 0, 1) := by decide +kernel
theorem dX13_removes_28 : decode cX13_removes 28 = .ok (.iaload, 1) := by decide +kernel
theorem dX13_removes_29 : decode cX13_removes 29 = .ok (.ireturn, 1) := by decide +kernel
theorem dX13_removes_30 : decode cX13_removes 30 = .ok (.aload_n 0, 1) := by decide +kernel
theorem dX13_removes_31 : decode cX13_removes 31 = .ok (.getfield 16, 3) := by decide +kernel
theorem dX13_removes_34 : decode cX13_removes 34 = .ok (.iconst 1, 1) := by decide +kernel
theorem dX13_removes_35 : decode cX13_removes 35 = .ok (.iaload, 1) := by decide +kernel
theorem dX13_removes_36 : decode cX13_removes 36 = .ok (.iconst 1, 1) := by decide +kernel
theorem dX13_removes_37 : decode cX13_removes 37 = .ok (.isub, 1) := by decide +kernel
theorem dX13_removes_38 : decode cX13_removes 38 = .ok (.istore 4, 2) := by decide +kernel
theorem dX13_removes_40 : decode cX13_removes 40 = .ok (.iload 4, 2) := by decide +kernel
theorem dX13_removes_42 : decode cX13_removes 42 = .ok (.ifCond .lt 80, 3) := by decide +kernel
theorem dX13_removes_45 : decode cX13_removes 45 = .ok (.aload_n 0, 1) := by decide +kernel
theorem dX13_removes_46 : decode cX13_removes 46 = .ok (.getfield 16, 3) := by decide +kernel
theorem dX13_removes_49 : decode cX13_removes 49 = .ok (.sipush 204, 3) := by decide +kernel
theorem dX13_removes_52 : decode cX13_removes 52 = .ok (.iload 4, 2) := by decide +kernel
theorem dX13_removes_54 : decode cX13_removes 54 = .ok (.iadd, 1) := by decide +kernel
theorem dX13_removes_55 : decode cX13_removes 55 = .ok (.iaload, 1) := by decide +kernel
theorem dX13_removes_56 : decode cX13_removes 56 = .ok (.iload_n 1, 1) := by decide +kernel
theorem dX13_removes_57 : decode cX13_removes 57 = .ok (.if_icmp .le 22, 3) := by decide +kernel
theorem dX13_removes_60 : decode cX13_removes 60 = .ok (.aload_n 0, 1) := by decide +kernel
theorem dX13_removes_61 : decode cX13_removes 61 = .ok (.getfield 16, 3) := by decide +kernel
theorem dX13_removes_64 : decode cX13_removes 64 = .ok (.sipush 204, 3) := by decide +kernel
theorem dX13_removes_67 : decode cX13_removes 67 = .ok (.iload 4, 2) := by decide +kernel
theorem dX13_removes_69 : decode cX13_removes 69 = .ok (.iadd, 1) := by decide +kernel
theorem dX13_removes_70 : decode cX13_removes 70 = .ok (.iaload, 1) := by decide +kernel
theorem dX13_removes_71 : decode cX13_removes 71 = .ok (.iload_n 2, 1) := by decide +kernel
theorem dX13_removes_72 : decode cX13_removes 72 = .ok (.if_icmp .ge 7, 3) := by decide +kernel
theorem dX13_removes_75 : decode cX13_removes 75 = .ok (.iconst 1, 1) := by decide +kernel
theorem dX13_removes_76 : decode cX13_removes 76 = .ok (.goto 4, 3) := by decide +kernel
theorem dX13_removes_79 : decode cX13_removes 79 = .ok (.iconst 0, 1) := by decide +kernel
theorem dX13_removes_80 : decode cX13_removes 80 = .ok (.istore 5, 2) := by decide +kernel
theorem dX13_removes_82 : decode cX13_removes 82 = .ok (.iload 5, 2) := by decide +kernel
theorem dX13_removes_84 : decode cX13_removes 84 = .ok (.ifCond .ne 26, 3) := by decide +kernel
theorem dX13_removes_87 : decode cX13_removes 87 = .ok (.aload_n 0, 1) := by decide +kernel
theorem dX13_removes_88 : decode cX13_removes 88 = .ok (.getfield 16, 3) := by decide +kernel
theorem dX13_removes_91 : decode cX13_removes 91 = .ok (.sipush 204, 3) := by decide +kernel
theorem dX13_removes_94 : decode cX13_removes 94 = .ok (.iload 4, 2) := by decide +kernel
theorem dX13_removes_96 : decode cX13_removes 96 = .ok (.iadd, 1) := by decide +kernel
theorem dX13_removes_97 : decode cX13_removes 97 = .ok (.iaload, 1) := by decide +kernel
theorem dX13_removes_98 : decode cX13_removes 98 = .ok (.iload_n 2, 1) := by decide +kernel
theorem dX13_removes_99 : decode cX13_removes 99 = .ok (.if_icmp .ne 17, 3) := by decide +kernel
theorem dX13_removes_102 : decode cX13_removes 102 = .ok (.aload_n 0, 1) := by decide +kernel
theorem dX13_removes_103 : decode cX13_removes 103 = .ok (.iload_n 1, 1) := by decide +kernel
theorem dX13_removes_104 : decode cX13_removes 104 = .ok (.invokevirtual 90, 3) := by decide +kernel
theorem dX13_removes_107 : decode cX13_removes 107 = .ok (.ifCond .lt 9, 3) := by decide +kernel
theorem dX13_removes_110 : decode cX13_removes 110 = .ok (.aload_n 0, 1) := by decide +kernel
theorem dX13_removes_111 : decode cX13_removes 111 = .ok (.iload 4, 2) := by decide +kernel
theorem dX13_removes_113 : decode cX13_removes 113 = .ok (.invokevirtual 93, 3) := by decide +kernel
theorem dX13_removes_116 : decode cX13_removes 116 = .ok (.iinc 4 (-1), 3) := by decide +kernel
theorem dX13_removes_119 : decode cX13_removes 119 = .ok (.goto (-79), 3) := by decide +kernel
theorem dX13_removes_122 : decode cX13_removes 122 = .ok (.iconst 0, 1) := by decide +kernel
theorem dX13_removes_123 : decode cX13_removes 123 = .ok (.istore 4, 2) := by decide +kernel
theorem dX13_removes_125 : decode cX13_removes 125 = .ok (.iload 4, 2) := by decide +kernel
theorem dX13_removes_127 : decode cX13_removes 127 = .ok (.aload_n 0, 1) := by decide +kernel
theorem dX13_removes_128 : decode cX13_removes 128 = .ok (.getfield 16, 3) := by decide +kernel
theorem dX13_removes_131 : decode cX13_removes 131 = .ok (.iconst 1, 1) := by decide +kernel
theorem dX13_removes_132 : decode cX13_removes 132 = .ok (.iaload, 1) := by decide +kernel
theorem dX13_removes_133 : decode cX13_removes 133 = .ok (.if_icmp .ge 43, 3) := by decide +kernel
theorem dX13_removes_136 : decode cX13_removes 136 = .ok (.aload_n 0, 1) := by decide +kernel
theorem dX13_removes_137 : decode cX13_removes 137 = .ok (.getfield 16, 3) := by decide +kernel
theorem dX13_removes_140 : decode cX13_removes 140 = .ok (.sipush 204, 3) := by decide +kernel
theorem dX13_removes_143 : decode cX13_removes 143 = .ok (.iload 4, 2) := by decide +kernel
theorem dX13_removes_145 : decode cX13_removes 145 = .ok (.iadd, 1) := by decide +kernel
theorem dX13_removes_146 : decode cX13_removes 146 = .ok (.dup2, 1) := by decide +kernel
theorem dX13_removes_147 : decode cX13_removes 147 = .ok (.iaload, 1) := by decide +kernel
theorem dX13_removes_148 : decode cX13_removes 148 = .ok (.aload_n 0, 1) := by decide +kernel
theorem dX13_removes_149 : decode cX13_removes 149 = .ok (.getfield 16, 3) := by decide +kernel
theorem dX13_removes_152 : decode cX13_removes 152 = .ok (.sipush 204, 3) := by decide +kernel
theorem dX13_removes_155 : decode cX13_removes 155 = .ok (.iload 4, 2) := by decide +kernel
theorem dX13_removes_157 : decode cX13_removes 157 = .ok (.iadd, 1) := by decide +kernel
theorem dX13_removes_158 : decode cX13_removes 158 = .ok (.iaload, 1) := by decide +kernel
theorem dX13_removes_159 : decode cX13_removes 159 = .ok (.iload_n 2, 1) := by decide +kernel
theorem dX13_removes_160 : decode cX13_removes 160 = .ok (.if_icmp .lt 7, 3) := by decide +kernel
theorem dX13_removes_163 : decode cX13_removes 163 = .ok (.iload_n 3, 1) := by decide +kernel
theorem dX13_removes_164 : decode cX13_removes 164 = .ok (.goto 4, 3) := by decide +kernel
theorem dX13_removes_167 : decode cX13_removes 167 = .ok (.iconst 0, 1) := by decide +kernel
theorem dX13_removes_168 : decode cX13_removes 168 = .ok (.isub, 1) := by decide +kernel
theorem dX13_removes_169 : decode cX13_removes 169 = .ok (.iastore, 1) := by decide +kernel
theorem dX13_removes_170 : decode cX13_removes 170 = .ok (.iinc 4 1, 3) := by decide +kernel
theorem dX13_removes_173 : decode cX13_removes 173 = .ok (.goto (-48), 3) := by decide +kernel
theorem dX13_removes_176 : decode cX13_removes 176 = .ok (.iload_n 2, 1) := by decide +kernel
theorem dX13_removes_177 : decode cX13_removes 177 = .ok (.istore 4, 2) := by decide +kernel
theorem dX13_removes_179 : decode cX13_removes 179 = .ok (.iload 4, 2) := by decide +kernel
theorem dX13_removes_181 : decode cX13_removes 181 = .ok (.aload_n 0, 1) := by decide +kernel
theorem dX13_removes_182 : decode cX13_removes 182 = .ok (.getfield 16, 3) := by decide +kernel
theorem dX13_removes_185 : decode cX13_removes 185 = .ok (.iconst 0, 1) := by decide +kernel
theorem dX13_removes_186 : decode cX13_removes 186 = .ok (.iaload, 1) := by decide +kernel
theorem dX13_removes_187 : decode cX13_removes 187 = .ok (.if_icmp .ge 29, 3) := by decide +kernel
theorem dX13_removes_190 : decode cX13_removes 190 = .ok (.aload_n 0, 1) := by decide +kernel
theorem dX13_removes_191 : decode cX13_removes 191 = .ok (.getfield 16, 3) := by decide +kernel
theorem dX13_removes_194 : decode cX13_removes 194 = .ok (.iconst 4, 1) := by decide +kernel
theorem dX13_removes_195 : decode cX13_removes 195 = .ok (.iload 4, 2) := by decide +kernel
theorem dX13_removes_197 : decode cX13_removes 197 = .ok (.iadd, 1) := by decide +kernel
theorem dX13_removes_198 : decode cX13_removes 198 = .ok (.iload_n 3, 1) := by decide +kernel
theorem dX13_removes_199 : decode cX13_removes 199 = .ok (.isub, 1) := by decide +kernel
theorem dX13_removes_200 : decode cX13_removes 200 = .ok (.aload_n 0, 1) := by decide +kernel
theorem dX13_removes_201 : decode cX13_removes 201 = .ok (.getfield 16, 3) := by decide +kernel
theorem dX13_removes_204 : decode cX13_removes 204 = .ok (.iconst 4, 1) := by decide +kernel
theorem dX13_removes_205 : decode cX13_removes 205 = .ok (.iload 4, 2) := by decide +kernel
theorem dX13_removes_207 : decode cX13_removes 207 = .ok (.iadd, 1) := by decide +kernel
theorem dX13_removes_208 : decode cX13_removes 208 = .ok (.iaload, 1) := by decide +kernel
theorem dX13_removes_209 : decode cX13_removes 209 = .ok (.iastore, 1) := by decide +kernel
theorem dX13_removes_210 : decode cX13_removes 210 = .ok (.iinc 4 1, 3) := by decide +kernel
theorem dX13_removes_213 : decode cX13_removes 213 = .ok (.goto (-34), 3) := by decide +kernel
theorem dX13_removes_216 : decode cX13_removes 216 = .ok (.aload_n 0, 1) := by decide +kernel
theorem dX13_removes_217 : decode cX13_removes 217 = .ok (.getfield 16, 3) := by decide +kernel
theorem dX13_removes_220 : decode cX13_removes 220 = .ok (.iconst 0, 1) := by decide +kernel
theorem dX13_removes_221 : decode cX13_removes 221 = .ok (.iaload, 1) := by decide +kernel
theorem dX13_removes_222 : decode cX13_removes 222 = .ok (.iload_n 3, 1) := by decide +kernel
theorem dX13_removes_223 : decode cX13_removes 223 = .ok (.isub, 1) := by decide +kernel
theorem dX13_removes_224 : decode cX13_removes 224 = .ok (.istore 4, 2) := by decide +kernel
theorem dX13_removes_226 : decode cX13_removes 226 = .ok (.iload 4, 2) := by decide +kernel
theorem dX13_removes_228 : decode cX13_removes 228 = .ok (.aload_n 0, 1) := by decide +kernel
theorem dX13_removes_229 : decode cX13_removes 229 = .ok (.getfield 16, 3) := by decide +kernel
theorem dX13_removes_232 : decode cX13_removes 232 = .ok (.iconst 0, 1) := by decide +kernel
theorem dX13_removes_233 : decode cX13_removes 233 = .ok (.iaload, 1) := by decide +kernel
theorem dX13_removes_234 : decode cX13_removes 234 = .ok (.if_icmp .ge 19, 3) := by decide +kernel
theorem dX13_removes_237 : decode cX13_removes 237 = .ok (.aload_n 0, 1) := by decide +kernel
theorem dX13_removes_238 : decode cX13_removes 238 = .ok (.getfield 16, 3) := by decide +kernel
theorem dX13_removes_241 : decode cX13_removes 241 = .ok (.iconst 4, 1) := by decide +kernel
theorem dX13_removes_242 : decode cX13_removes 242 = .ok (.iload 4, 2) := by decide +kernel
theorem dX13_removes_244 : decode cX13_removes 244 = .ok (.iadd, 1) := by decide +kernel
theorem dX13_removes_245 : decode cX13_removes 245 = .ok (.iconst 0, 1) := by decide +kernel
theorem dX13_removes_246 : decode cX13_removes 246 = .ok (.iastore, 1) := by decide +kernel
theorem dX13_removes_247 : decode cX13_removes 247 = .ok (.iinc 4 1, 3) := by decide +kernel
theorem dX13_removes_250 : decode cX13_removes 250 = .ok (.goto (-24), 3) := by decide +kernel
theorem dX13_removes_253 : decode cX13_removes 253 = .ok (.aload_n 0, 1) := by decide +kernel
theorem dX13_removes_254 : decode cX13_removes 254 = .ok (.getfield 16, 3) := by decide +kernel
theorem dX13_removes_257 : decode cX13_removes 257 = .ok (.iconst 0, 1) := by decide +kernel
theorem dX13_removes_258 : decode cX13_removes 258 = .ok (.dup2, 1) := by decide +kernel
theorem dX13_removes_259 : decode cX13_removes 259 = .ok (.iaload, 1) := by decide +kernel
theorem dX13_removes_260 : decode cX13_removes 260 = .ok (.iload_n 3, 1) := by decide +kernel
theorem dX13_removes_261 : decode cX13_removes 261 = .ok (.isub, 1) := by decide +kernel
theorem dX13_removes_262 : decode cX13_removes 262 = .ok (.iastore, 1) := by decide +kernel
theorem dX13_removes_263 : decode cX13_removes 263 = .ok (.aload_n 0, 1) := by decide +kernel
theorem dX13_removes_264 : decode cX13_removes 264 = .ok (.getfield 16, 3) := by decide +kernel
theorem dX13_removes_267 : decode cX13_removes 267 = .ok (.iconst 0, 1) := by decide +kernel
theorem dX13_removes_268 : decode cX13_removes 268 = .ok (.iaload, 1) := by decide +kernel
theorem dX13_removes_269 : decode cX13_removes 269 = .ok (.ireturn, 1) := by decide +kernel
theorem dX13_remove_0 : decode cX13_remove 0 = .ok (.aload_n 0, 1) := by decide +kernel
theorem dX13_remove_1 : decode cX13_remove 1 = .ok (.invokevirtual 68, 3) := by decide +kernel
theorem dX13_remove_4 : decode cX13_remove 4 = .ok (.aload_n 0, 1) := by decide +kernel
theorem dX13_remove_5 : decode cX13_remove 5 = .ok (.aload_n 0, 1) := by decide +kernel
theorem dX13_remove_6 : decode cX13_remove 6 = .ok (.iload_n 1, 1) := by decide +kernel
theorem dX13_remove_7 : decode cX13_remove 7 = .ok (.iload_n 2, 1) := by decide +kernel
theorem dX13_remove_8 : decode cX13_remove 8 = .ok (.invokevirtual 97, 3) := by decide +kernel
theorem dX13_remove_11 : decode cX13_remove 11 = .ok (.invokevirtual 75, 3) := by decide +kernel
theorem dX13_remove_14 : decode cX13_remove 14 = .ok (.ireturn, 1) := by decide +kernel
theorem dX13_mutes_0 : decode cX13_mutes 0 = .ok (.aload_n 0, 1) := by decide +kernel
theorem dX13_mutes_1 : decode cX13_mutes 1 = .ok (.iload_n 1, 1) := by decide +kernel
theorem dX13_mutes_2 : decode cX13_mutes 2 = .ok (.iload_n 2, 1) := by decide +kernel
theorem dX13_mutes_3 : decode cX13_mutes 3 = .ok (.invokevirtual 86, 3) := by decide +kernel
theorem dX13_mutes_6 : decode cX13_mutes 6 = .ok (.ifCond .ne 9, 3) := by decide +kernel
theorem dX13_mutes_9 : decode cX13_mutes 9 = .ok (.aload_n 0, 1) := by decide +kernel
theorem dX13_mutes_10 : decode cX13_mutes 10 = .ok (.iconst 1, 1) := by decide +kernel
theorem dX13_mutes_11 : decode cX13_mutes 11 = .ok (.invokevirtual 61, 3) := by decide +kernel
theorem dX13_mutes_14 : decode cX13_mutes 14 = .ok (.ireturn, 1) := by decide +kernel
theorem dX13_mutes_15 : decode cX13_mutes 15 = .ok (.iconst 0, 1) := by decide +kernel
theorem dX13_mutes_16 : decode cX13_mutes 16 = .ok (.istore_n 3, 1) := by decide +kernel
theorem dX13_mutes_17 : decode cX13_mutes 17 = .ok (.iload_n 1, 1) := by decide +kernel
theorem dX13_mutes_18 : decode cX13_mutes 18 = .ok (.istore 4, 2) := by decide +kernel
theorem dX13_mutes_20 : decode cX13_mutes 20 = .ok (.iload 4, 2) := by decide +kernel
theorem dX13_mutes_22 : decode cX13_mutes 22 = .ok (.iload_n 2, 1) := by decide +kernel
theorem dX13_mutes_23 : decode cX13_mutes 23 = .ok (.if_icmp .ge 36, 3) := by decide +kernel
theorem dX13_mutes_26 : decode cX13_mutes 26 = .ok (.iload_n 3, 1) := by decide +kernel
theorem dX13_mutes_27 : decode cX13_mutes 27 = .ok (.aload_n 0, 1) := by decide +kernel
theorem dX13_mutes_28 : decode cX13_mutes 28 = .ok (.iload 4, 2) := by decide +kernel
theorem dX13_mutes_30 : decode cX13_mutes 30 = .ok (.invokevirtual 65, 3) := by decide +kernel
theorem dX13_mutes_33 : decode cX13_mutes 33 = .ok (.ifCond .le 7, 3) := by decide +kernel
theorem dX13_mutes_36 : decode cX13_mutes 36 = .ok (.iconst 1, 1) := by decide +kernel
theorem dX13_mutes_37 : decode cX13_mutes 37 = .ok (.goto 4, 3) := by decide +kernel
theorem dX13_mutes_40 : decode cX13_mutes 40 = .ok (.iconst 0, 1) := by decide +kernel
theorem dX13_mutes_41 : decode cX13_mutes 41 = .ok (.iadd, 1) := by decide +kernel
theorem dX13_mutes_42 : decode cX13_mutes 42 = .ok (.istore_n 3, 1) := by decide +kernel
theorem dX13_mutes_43 : decode cX13_mutes 43 = .ok (.aload_n 0, 1) := by decide +kernel
theorem dX13_mutes_44 : decode cX13_mutes 44 = .ok (.getfield 16, 3) := by decide +kernel
theorem dX13_mutes_47 : decode cX13_mutes 47 = .ok (.iconst 4, 1) := by decide +kernel
theorem dX13_mutes_48 : decode cX13_mutes 48 = .ok (.iload 4, 2) := by decide +kernel
theorem dX13_mutes_50 : decode cX13_mutes 50 = .ok (.iadd, 1) := by decide +kernel
theorem dX13_mutes_51 : decode cX13_mutes 51 = .ok (.iconst 0, 1) := by decide +kernel
theorem dX13_mutes_52 : decode cX13_mutes 52 = .ok (.iastore, 1) := by decide +kernel
theorem dX13_mutes_53 : decode cX13_mutes 53 = .ok (.iinc 4 1, 3) := by decide +kernel
theorem dX13_mutes_56 : decode cX13_mutes 56 = .ok (.goto (-36), 3) := by decide +kernel
theorem dX13_mutes_59 : decode cX13_mutes 59 = .ok (.iload_n 3, 1) := by decide +kernel
theorem dX13_mutes_60 : decode cX13_mutes 60 = .ok (.ireturn, 1) := by decide +kernel
theorem dX13_mute_0 : decode cX13_mute 0 = .ok (.aload_n 0, 1) := by decide +kernel
theorem dX13_mute_1 : decode cX13_mute 1 = .ok (.invokevirtual 68, 3) := by decide +kernel
theorem dX13_mute_4 : decode cX13_mute 4 = .ok (.aload_n 0, 1) := by decide +kernel
theorem dX13_mute_5 : decode cX13_mute 5 = .ok (.aload_n 0, 1) := by decide +kernel
theorem dX13_mute_6 : decode cX13_mute 6 = .ok (.iload_n 1, 1) := by decide +kernel
theorem dX13_mute_7 : decode cX13_mute 7 = .ok (.iload_n 2, 1) := by decide +kernel
theorem dX13_mute_8 : decode cX13_mute 8 = .ok (.invokevirtual 100, 3) := by decide +kernel
theorem dX13_mute_11 : decode cX13_mute 11 = .ok (.invokevirtual 75, 3) := by decide +kernel
theorem dX13_mute_14 : decode cX13_mute 14 = .ok (.ireturn, 1) := by decide +kernel
theorem dX13_shifts_0 : decode cX13_shifts 0 = .ok (.aload_n 0, 1) := by decide +kernel
theorem dX13_shifts_1 : decode cX13_shifts 1 = .ok (.iload_n 1, 1) := by decide +kernel
theorem dX13_shifts_2 : decode cX13_shifts 2 = .ok (.iload_n 2, 1) := by decide +kernel
theorem dX13_shifts_3 : decode cX13_shifts 3 = .ok (.invokevirtual 86, 3) := by decide +kernel
