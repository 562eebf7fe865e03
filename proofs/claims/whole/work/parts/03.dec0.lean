theorem dX1_init_0 : decode cX1_init 0 = .ok (.aload_n 0, 1) := by decide +kernel
theorem dX1_init_1 : decode cX1_init 1 = .ok (.invokespecial 1, 3) := by decide +kernel
theorem dX1_init_4 : decode cX1_init 4 = .ok (.aload_n 0, 1) := by decide +kernel
theorem dX1_init_5 : decode cX1_init 5 = .ok (.getstatic 7, 3) := by decide +kernel
theorem dX1_init_8 : decode cX1_init 8 = .ok (.putfield 13, 3) := by decide +kernel
theorem dX1_init_11 : decode cX1_init 11 = .ok (.return_, 1) := by decide +kernel
theorem dX3_init_0 : decode cX3_init 0 = .ok (.aload_n 0, 1) := by decide +kernel
theorem dX3_init_1 : decode cX3_init 1 = .ok (.invokespecial 3, 3) := by decide +kernel
theorem dX3_init_4 : decode cX3_init 4 = .ok (.aload_n 0, 1) := by decide +kernel
theorem dX3_init_5 : decode cX3_init 5 = .ok (.bipush 8, 2) := by decide +kernel
theorem dX3_init_7 : decode cX3_init 7 = .ok (.anewarray 9, 3) := by decide +kernel
theorem dX3_init_10 : decode cX3_init 10 = .ok (.putfield 11, 3) := by decide +kernel
theorem dX3_init_13 : decode cX3_init 13 = .ok (.iconst 0, 1) := by decide +kernel
theorem dX3_init_14 : decode cX3_init 14 = .ok (.istore_n 1, 1) := by decide +kernel
theorem dX3_init_15 : decode cX3_init 15 = .ok (.iload_n 1, 1) := by decide +kernel
theorem dX3_init_16 : decode cX3_init 16 = .ok (.aload_n 0, 1) := by decide +kernel
theorem dX3_init_17 : decode cX3_init 17 = .ok (.getfield 11, 3) := by decide +kernel
theorem dX3_init_20 : decode cX3_init 20 = .ok (.arraylength, 1) := by decide +kernel
theorem dX3_init_21 : decode cX3_init 21 = .ok (.if_icmp .ge 22, 3) := by decide +kernel
theorem dX3_init_24 : decode cX3_init 24 = .ok (.aload_n 0, 1) := by decide +kernel
theorem dX3_init_25 : decode cX3_init 25 = .ok (.getfield 11, 3) := by decide +kernel
theorem dX3_init_28 : decode cX3_init 28 = .ok (.iload_n 1, 1) := by decide +kernel
theorem dX3_init_29 : decode cX3_init 29 = .ok (.new 9, 3) := by decide +kernel
theorem dX3_init_32 : decode cX3_init 32 = .ok (.dup, 1) := by decide +kernel
theorem dX3_init_33 : decode cX3_init 33 = .ok (.invokespecial 17, 3) := by decide +kernel
theorem dX3_init_36 : decode cX3_init 36 = .ok (.aastore, 1) := by decide +kernel
theorem dX3_init_37 : decode cX3_init 37 = .ok (.iinc 1 1, 3) := by decide +kernel
theorem dX3_init_40 : decode cX3_init 40 = .ok (.goto (-25), 3) := by decide +kernel
theorem dX3_init_43 : decode cX3_init 43 = .ok (.return_, 1) := by decide +kernel
theorem dX3_count_0 : decode cX3_count 0 = .ok (.aload_n 0, 1) := by decide +kernel
theorem dX3_count_1 : decode cX3_count 1 = .ok (.getfield 18, 3) := by decide +kernel
theorem dX3_count_4 : decode cX3_count 4 = .ok (.ireturn, 1) := by decide +kernel
theorem dX3_clear_0 : decode cX3_clear 0 = .ok (.aload_n 0, 1) := by decide +kernel
theorem dX3_clear_1 : decode cX3_clear 1 = .ok (.iconst 0, 1) := by decide +kernel
theorem dX3_clear_2 : decode cX3_clear 2 = .ok (.putfield 18, 3) := by decide +kernel
theorem dX3_clear_5 : decode cX3_clear 5 = .ok (.return_, 1) := by decide +kernel
theorem dX3_push_0 : decode cX3_push 0 = .ok (.aload_n 0, 1) := by decide +kernel
theorem dX3_push_1 : decode cX3_push 1 = .ok (.aload_n 0, 1) := by decide +kernel
theorem dX3_push_2 : decode cX3_push 2 = .ok (.getfield 22, 3) := by decide +kernel
theorem dX3_push_5 : decode cX3_push 5 = .ok (.invokevirtual 25, 3) := by decide +kernel
theorem dX3_push_8 : decode cX3_push 8 = .ok (.astore_n 2, 1) := by decide +kernel
theorem dX3_push_9 : decode cX3_push 9 = .ok (.aload_n 2, 1) := by decide +kernel
theorem dX3_push_10 : decode cX3_push 10 = .ok (.ifnull 8, 3) := by decide +kernel
theorem dX3_push_13 : decode cX3_push 13 = .ok (.aload_n 2, 1) := by decide +kernel
theorem dX3_push_14 : decode cX3_push 14 = .ok (.aload_n 1, 1) := by decide +kernel
theorem dX3_push_15 : decode cX3_push 15 = .ok (.invokevirtual 29, 3) := by decide +kernel
theorem dX3_push_18 : decode cX3_push 18 = .ok (.aload_n 0, 1) := by decide +kernel
theorem dX3_push_19 : decode cX3_push 19 = .ok (.aload_n 0, 1) := by decide +kernel
theorem dX3_push_20 : decode cX3_push 20 = .ok (.getfield 22, 3) := by decide +kernel
theorem dX3_push_23 : decode cX3_push 23 = .ok (.iconst 1, 1) := by decide +kernel
theorem dX3_push_24 : decode cX3_push 24 = .ok (.iadd, 1) := by decide +kernel
theorem dX3_push_25 : decode cX3_push 25 = .ok (.bipush 8, 2) := by decide +kernel
theorem dX3_push_27 : decode cX3_push 27 = .ok (.irem, 1) := by decide +kernel
theorem dX3_push_28 : decode cX3_push 28 = .ok (.putfield 22, 3) := by decide +kernel
theorem dX3_push_31 : decode cX3_push 31 = .ok (.aload_n 0, 1) := by decide +kernel
theorem dX3_push_32 : decode cX3_push 32 = .ok (.aload_n 0, 1) := by decide +kernel
theorem dX3_push_33 : decode cX3_push 33 = .ok (.getfield 18, 3) := by decide +kernel
theorem dX3_push_36 : decode cX3_push 36 = .ok (.iconst 1, 1) := by decide +kernel
theorem dX3_push_37 : decode cX3_push 37 = .ok (.iadd, 1) := by decide +kernel
theorem dX3_push_38 : decode cX3_push 38 = .ok (.bipush 8, 2) := by decide +kernel
theorem dX3_push_40 : decode cX3_push 40 = .ok (.invokestatic 33, 3) := by decide +kernel
theorem dX3_push_43 : decode cX3_push 43 = .ok (.putfield 18, 3) := by decide +kernel
theorem dX3_push_46 : decode cX3_push 46 = .ok (.return_, 1) := by decide +kernel
theorem dX3_pop_0 : decode cX3_pop 0 = .ok (.aload_n 0, 1) := by decide +kernel
theorem dX3_pop_1 : decode cX3_pop 1 = .ok (.aload_n 0, 1) := by decide +kernel
theorem dX3_pop_2 : decode cX3_pop 2 = .ok (.getfield 22, 3) := by decide +kernel
theorem dX3_pop_5 : decode cX3_pop 5 = .ok (.bipush 8, 2) := by decide +kernel
theorem dX3_pop_7 : decode cX3_pop 7 = .ok (.iadd, 1) := by decide +kernel
theorem dX3_pop_8 : decode cX3_pop 8 = .ok (.iconst 1, 1) := by decide +kernel
theorem dX3_pop_9 : decode cX3_pop 9 = .ok (.isub, 1) := by decide +kernel
theorem dX3_pop_10 : decode cX3_pop 10 = .ok (.bipush 8, 2) := by decide +kernel
theorem dX3_pop_12 : decode cX3_pop 12 = .ok (.irem, 1) := by decide +kernel
theorem dX3_pop_13 : decode cX3_pop 13 = .ok (.putfield 22, 3) := by decide +kernel
theorem dX3_pop_16 : decode cX3_pop 16 = .ok (.aload_n 0, 1) := by decide +kernel
theorem dX3_pop_17 : decode cX3_pop 17 = .ok (.dup, 1) := by decide +kernel
theorem dX3_pop_18 : decode cX3_pop 18 = .ok (.getfield 18, 3) := by decide +kernel
theorem dX3_pop_21 : decode cX3_pop 21 = .ok (.iconst 1, 1) := by decide +kernel
theorem dX3_pop_22 : decode cX3_pop 22 = .ok (.isub, 1) := by decide +kernel
theorem dX3_pop_23 : decode cX3_pop 23 = .ok (.putfield 18, 3) := by decide +kernel
theorem dX3_pop_26 : decode cX3_pop 26 = .ok (.aload_n 0, 1) := by decide +kernel
theorem dX3_pop_27 : decode cX3_pop 27 = .ok (.aload_n 0, 1) := by decide +kernel
theorem dX3_pop_28 : decode cX3_pop 28 = .ok (.getfield 22, 3) := by decide +kernel
theorem dX3_pop_31 : decode cX3_pop 31 = .ok (.invokevirtual 25, 3) := by decide +kernel
theorem dX3_pop_34 : decode cX3_pop 34 = .ok (.astore_n 2, 1) := by decide +kernel
theorem dX3_pop_35 : decode cX3_pop 35 = .ok (.aload_n 2, 1) := by decide +kernel
theorem dX3_pop_36 : decode cX3_pop 36 = .ok (.ifnull 8, 3) := by decide +kernel
theorem dX3_pop_39 : decode cX3_pop 39 = .ok (.aload_n 1, 1) := by decide +kernel
theorem dX3_pop_40 : decode cX3_pop 40 = .ok (.aload_n 2, 1) := by decide +kernel
theorem dX3_pop_41 : decode cX3_pop 41 = .ok (.invokevirtual 29, 3) := by decide +kernel
theorem dX3_pop_44 : decode cX3_pop 44 = .ok (.return_, 1) := by decide +kernel
theorem dX3_slotAt_0 : decode cX3_slotAt 0 = .ok (.iload_n 1, 1) := by decide +kernel
theorem dX3_slotAt_1 : decode cX3_slotAt 1 = .ok (.ifCond .lt 21, 3) := by decide +kernel
theorem dX3_slotAt_4 : decode cX3_slotAt 4 = .ok (.iload_n 1, 1) := by decide +kernel
theorem dX3_slotAt_5 : decode cX3_slotAt 5 = .ok (.aload_n 0, 1) := by decide +kernel
theorem dX3_slotAt_6 : decode cX3_slotAt 6 = .ok (.getfield 11, 3) := by decide +kernel
theorem dX3_slotAt_9 : decode cX3_slotAt 9 = .ok (.arraylength, 1) := by decide +kernel
theorem dX3_slotAt_10 : decode cX3_slotAt 10 = .ok (.if_icmp .ge 12, 3) := by decide +kernel
theorem dX3_slotAt_13 : decode cX3_slotAt 13 = .ok (.aload_n 0, 1) := by decide +kernel
theorem dX3_slotAt_14 : decode cX3_slotAt 14 = .ok (.getfield 11, 3) := by decide +kernel
theorem dX3_slotAt_17 : decode cX3_slotAt 17 = .ok (.iload_n 1, 1) := by decide +kernel
theorem dX3_slotAt_18 : decode cX3_slotAt 18 = .ok (.aaload, 1) := by decide +kernel
theorem dX3_slotAt_19 : decode cX3_slotAt 19 = .ok (.goto 4, 3) := by decide +kernel
theorem dX3_slotAt_22 : decode cX3_slotAt 22 = .ok (.aconst_null, 1) := by decide +kernel
theorem dX3_slotAt_23 : decode cX3_slotAt 23 = .ok (.areturn, 1) := by decide +kernel
theorem dX4_init_0 : decode cX4_init 0 = .ok (.aload_n 0, 1) := by decide +kernel
theorem dX4_init_1 : decode cX4_init 1 = .ok (.invokespecial 3, 3) := by decide +kernel
theorem dX4_init_4 : decode cX4_init 4 = .ok (.aload_n 0, 1) := by decide +kernel
theorem dX4_init_5 : decode cX4_init 5 = .ok (.bipush 60, 2) := by decide +kernel
theorem dX4_init_7 : decode cX4_init 7 = .ok (.newarray .char, 2) := by decide +kernel
theorem dX4_init_9 : decode cX4_init 9 = .ok (.putfield 9, 3) := by decide +kernel
theorem dX4_init_12 : decode cX4_init 12 = .ok (.return_, 1) := by decide +kernel
theorem dX4_length_0 : decode cX4_length 0 = .ok (.aload_n 0, 1) := by decide +kernel
theorem dX4_length_1 : decode cX4_length 1 = .ok (.getfield 15, 3) := by decide +kernel
theorem dX4_length_4 : decode cX4_length 4 = .ok (.ireturn, 1) := by decide +kernel
theorem dX4_position_0 : decode cX4_position 0 = .ok (.aload_n 0, 1) := by decide +kernel
theorem dX4_position_1 : decode cX4_position 1 = .ok (.getfield 19, 3) := by decide +kernel
theorem dX4_position_4 : decode cX4_position 4 = .ok (.ireturn, 1) := by decide +kernel
theorem dX4_isBroken_0 : decode cX4_isBroken 0 = .ok (.aload_n 0, 1) := by decide +kernel
theorem dX4_isBroken_1 : decode cX4_isBroken 1 = .ok (.getfield 22, 3) := by decide +kernel
theorem dX4_isBroken_4 : decode cX4_isBroken 4 = .ok (.ireturn, 1) := by decide +kernel
theorem dX4_append_0 : decode cX4_append 0 = .ok (.aload_n 0, 1) := by decide +kernel
theorem dX4_append_1 : decode cX4_append 1 = .ok (.getfield 15, 3) := by decide +kernel
theorem dX4_append_4 : decode cX4_append 4 = .ok (.ifCond .lt 35, 3) := by decide +kernel
theorem dX4_append_7 : decode cX4_append 7 = .ok (.aload_n 0, 1) := by decide +kernel
theorem dX4_append_8 : decode cX4_append 8 = .ok (.getfield 15, 3) := by decide +kernel
theorem dX4_append_11 : decode cX4_append 11 = .ok (.aload_n 0, 1) := by decide +kernel
theorem dX4_append_12 : decode cX4_append 12 = .ok (.getfield 9, 3) := by decide +kernel
theorem dX4_append_15 : decode cX4_append 15 = .ok (.arraylength, 1) := by decide +kernel
theorem dX4_append_16 : decode cX4_append 16 = .ok (.if_icmp .ge 23, 3) := by decide +kernel
theorem dX4_append_19 : decode cX4_append 19 = .ok (.aload_n 0, 1) := by decide +kernel
theorem dX4_append_20 : decode cX4_append 20 = .ok (.getfield 9, 3) := by decide +kernel
theorem dX4_append_23 : decode cX4_append 23 = .ok (.aload_n 0, 1) := by decide +kernel
theorem dX4_append_24 : decode cX4_append 24 = .ok (.getfield 15, 3) := by decide +kernel
theorem dX4_append_27 : decode cX4_append 27 = .ok (.iload_n 1, 1) := by decide +kernel
theorem dX4_append_28 : decode cX4_append 28 = .ok (.castore, 1) := by decide +kernel
theorem dX4_append_29 : decode cX4_append 29 = .ok (.aload_n 0, 1) := by decide +kernel
theorem dX4_append_30 : decode cX4_append 30 = .ok (.dup, 1) := by decide +kernel
theorem dX4_append_31 : decode cX4_append 31 = .ok (.getfield 15, 3) := by decide +kernel
theorem dX4_append_34 : decode cX4_append 34 = .ok (.iconst 1, 1) := by decide +kernel
theorem dX4_append_35 : decode cX4_append 35 = .ok (.iadd, 1) := by decide +kernel
theorem dX4_append_36 : decode cX4_append 36 = .ok (.putfield 15, 3) := by decide +kernel
theorem dX4_append_39 : decode cX4_append 39 = .ok (.return_, 1) := by decide +kernel
theorem dX4_clear_0 : decode cX4_clear 0 = .ok (.aload_n 0, 1) := by decide +kernel
theorem dX4_clear_1 : decode cX4_clear 1 = .ok (.iconst 0, 1) := by decide +kernel
theorem dX4_clear_2 : decode cX4_clear 2 = .ok (.putfield 15, 3) := by decide +kernel
theorem dX4_clear_5 : decode cX4_clear 5 = .ok (.return_, 1) := by decide +kernel
theorem dX4_readNotation_0 : decode cX4_readNotation 0 = .ok (.aload_n 0, 1) := by decide +kernel
theorem dX4_readNotation_1 : decode cX4_readNotation 1 = .ok (.invokevirtual 26, 3) := by decide +kernel
theorem dX4_readNotation_4 : decode cX4_readNotation 4 = .ok (.aload_n 1, 1) := by decide +kernel
theorem dX4_readNotation_5 : decode cX4_readNotation 5 = .ok (.invokevirtual 29, 3) := by decide +kernel
theorem dX4_readNotation_8 : decode cX4_readNotation 8 = .ok (.aload_n 0, 1) := by decide +kernel
theorem dX4_readNotation_9 : decode cX4_readNotation 9 = .ok (.getfield 15, 3) := by decide +kernel
theorem dX4_readNotation_12 : decode cX4_readNotation 12 = .ok (.ifCond .ne 5, 3) := by decide +kernel
theorem dX4_readNotation_15 : decode cX4_readNotation 15 = .ok (.iconst 0, 1) := by decide +kernel
theorem dX4_readNotation_16 : decode cX4_readNotation 16 = .ok (.ireturn, 1) := by decide +kernel
theorem dX4_readNotation_17 : decode cX4_readNotation 17 = .ok (.iconst 0, 1) := by decide +kernel
theorem dX4_readNotation_18 : decode cX4_readNotation 18 = .ok (.istore_n 2, 1) := by decide +kernel
theorem dX4_readNotation_19 : decode cX4_readNotation 19 = .ok (.iconst 0, 1) := by decide +kernel
theorem dX4_readNotation_20 : decode cX4_readNotation 20 = .ok (.istore_n 3, 1) := by decide +kernel
theorem dX4_readNotation_21 : decode cX4_readNotation 21 = .ok (.iload_n 3, 1) := by decide +kernel
theorem dX4_readNotation_22 : decode cX4_readNotation 22 = .ok (.bipush 60, 2) := by decide +kernel
theorem dX4_readNotation_24 : decode cX4_readNotation 24 = .ok (.if_icmp .ge 29, 3) := by decide +kernel
theorem dX4_readNotation_27 : decode cX4_readNotation 27 = .ok (.iload_n 2, 1) := by decide +kernel
theorem dX4_readNotation_28 : decode cX4_readNotation 28 = .ok (.aload_n 0, 1) := by decide +kernel
theorem dX4_readNotation_29 : decode cX4_readNotation 29 = .ok (.aload_n 1, 1) := by decide +kernel
theorem dX4_readNotation_30 : decode cX4_readNotation 30 = .ok (.invokevirtual 34, 3) := by decide +kernel
theorem dX4_readNotation_33 : decode cX4_readNotation 33 = .ok (.iadd, 1) := by decide +kernel
theorem dX4_readNotation_34 : decode cX4_readNotation 34 = .ok (.istore_n 2, 1) := by decide +kernel
theorem dX4_readNotation_35 : decode cX4_readNotation 35 = .ok (.aload_n 0, 1) := by decide +kernel
theorem dX4_readNotation_36 : decode cX4_readNotation 36 = .ok (.bipush 32, 2) := by decide +kernel
theorem dX4_readNotation_38 : decode cX4_readNotation 38 = .ok (.invokevirtual 38, 3) := by decide +kernel
theorem dX4_readNotation_41 : decode cX4_readNotation 41 = .ok (.ifCond .ne 6, 3) := by decide +kernel
theorem dX4_readNotation_44 : decode cX4_readNotation 44 = .ok (.goto 9, 3) := by decide +kernel
theorem dX4_readNotation_47 : decode cX4_readNotation 47 = .ok (.iinc 3 1, 3) := by decide +kernel
theorem dX4_readNotation_50 : decode cX4_readNotation 50 = .ok (.goto (-29), 3) := by decide +kernel
theorem dX4_readNotation_53 : decode cX4_readNotation 53 = .ok (.aload_n 0, 1) := by decide +kernel
theorem dX4_readNotation_54 : decode cX4_readNotation 54 = .ok (.invokevirtual 42, 3) := by decide +kernel
theorem dX4_readNotation_57 : decode cX4_readNotation 57 = .ok (.iload_n 2, 1) := by decide +kernel
theorem dX4_readNotation_58 : decode cX4_readNotation 58 = .ok (.ireturn, 1) := by decide +kernel
theorem dX4_readRun_0 : decode cX4_readRun 0 = .ok (.iconst 0, 1) := by decide +kernel
theorem dX4_readRun_1 : decode cX4_readRun 1 = .ok (.istore_n 2, 1) := by decide +kernel
theorem dX4_readRun_2 : decode cX4_readRun 2 = .ok (.aload_n 0, 1) := by decide +kernel
theorem dX4_readRun_3 : decode cX4_readRun 3 = .ok (.bipush 114, 2) := by decide +kernel
theorem dX4_readRun_5 : decode cX4_readRun 5 = .ok (.invokevirtual 38, 3) := by decide +kernel
theorem dX4_readRun_8 : decode cX4_readRun 8 = .ok (.ifCond .ne 16, 3) := by decide +kernel
theorem dX4_readRun_11 : decode cX4_readRun 11 = .ok (.aload_n 0, 1) := by decide +kernel
theorem dX4_readRun_12 : decode cX4_readRun 12 = .ok (.bipush 104, 2) := by decide +kernel
theorem dX4_readRun_14 : decode cX4_readRun 14 = .ok (.invokevirtual 45, 3) := by decide +kernel
theorem dX4_readRun_17 : decode cX4_readRun 17 = .ok (.aload_n 0, 1) := by decide +kernel
theorem dX4_readRun_18 : decode cX4_readRun 18 = .ok (.bipush 49, 2) := by decide +kernel
theorem dX4_readRun_20 : decode cX4_readRun 20 = .ok (.invokevirtual 49, 3) := by decide +kernel
theorem dX4_readRun_23 : decode cX4_readRun 23 = .ok (.istore_n 2, 1) := by decide +kernel
theorem dX4_readRun_24 : decode cX4_readRun 24 = .ok (.aload_n 0, 1) := by decide +kernel
theorem dX4_readRun_25 : decode cX4_readRun 25 = .ok (.bipush 58, 2) := by decide +kernel
theorem dX4_readRun_27 : decode cX4_readRun 27 = .ok (.invokevirtual 45, 3) := by decide +kernel
theorem dX4_readRun_30 : decode cX4_readRun 30 = .ok (.aload_n 0, 1) := by decide +kernel
theorem dX4_readRun_31 : decode cX4_readRun 31 = .ok (.bipush 49, 2) := by decide +kernel
theorem dX4_readRun_33 : decode cX4_readRun 33 = .ok (.invokevirtual 53, 3) := by decide +kernel
theorem dX4_readRun_36 : decode cX4_readRun 36 = .ok (.istore_n 3, 1) := by decide +kernel
theorem dX4_readRun_37 : decode cX4_readRun 37 = .ok (.iconst 0, 1) := by decide +kernel
theorem dX4_readRun_38 : decode cX4_readRun 38 = .ok (.istore 4, 2) := by decide +kernel
theorem dX4_readRun_40 : decode cX4_readRun 40 = .ok (.iload 4, 2) := by decide +kernel
theorem dX4_readRun_42 : decode cX4_readRun 42 = .ok (.iload_n 3, 1) := by decide +kernel
theorem dX4_readRun_43 : decode cX4_readRun 43 = .ok (.if_icmp .ge 14, 3) := by decide +kernel
theorem dX4_readRun_46 : decode cX4_readRun 46 = .ok (.aload_n 1, 1) := by decide +kernel
theorem dX4_readRun_47 : decode cX4_readRun 47 = .ok (.iload_n 2, 1) := by decide +kernel
theorem dX4_readRun_48 : decode cX4_readRun 48 = .ok (.invokevirtual 56, 3) := by decide +kernel
theorem dX4_readRun_51 : decode cX4_readRun 51 = .ok (.iinc 4 1, 3) := by decide +kernel
theorem dX4_readRun_54 : decode cX4_readRun 54 = .ok (.goto (-14), 3) := by decide +kernel
theorem dX4_readRun_57 : decode cX4_readRun 57 = .ok (.iload_n 3, 1) := by decide +kernel
theorem dX4_readRun_58 : decode cX4_readRun 58 = .ok (.ireturn, 1) := by decide +kernel
theorem dX4_readScript_0 : decode cX4_readScript 0 = .ok (.aload_n 0, 1) := by decide +kernel
theorem dX4_readScript_1 : decode cX4_readScript 1 = .ok (.invokevirtual 26, 3) := by decide +kernel
theorem dX4_readScript_4 : decode cX4_readScript 4 = .ok (.aload_n 1, 1) := by decide +kernel
theorem dX4_readScript_5 : decode cX4_readScript 5 = .ok (.invokevirtual 60, 3) := by decide +kernel
theorem dX4_readScript_8 : decode cX4_readScript 8 = .ok (.iconst 0, 1) := by decide +kernel
theorem dX4_readScript_9 : decode cX4_readScript 9 = .ok (.istore_n 2, 1) := by decide +kernel
theorem dX4_readScript_10 : decode cX4_readScript 10 = .ok (.iload_n 2, 1) := by decide +kernel
theorem dX4_readScript_11 : decode cX4_readScript 11 = .ok (.bipush 60, 2) := by decide +kernel
theorem dX4_readScript_13 : decode cX4_readScript 13 = .ok (.if_icmp .ge 26, 3) := by decide +kernel
theorem dX4_readScript_16 : decode cX4_readScript 16 = .ok (.aload_n 0, 1) := by decide +kernel
theorem dX4_readScript_17 : decode cX4_readScript 17 = .ok (.aload_n 1, 1) := by decide +kernel
theorem dX4_readScript_18 : decode cX4_readScript 18 = .ok (.invokevirtual 63, 3) := by decide +kernel
theorem dX4_readScript_21 : decode cX4_readScript 21 = .ok (.aload_n 0, 1) := by decide +kernel
theorem dX4_readScript_22 : decode cX4_readScript 22 = .ok (.bipush 59, 2) := by decide +kernel
theorem dX4_readScript_24 : decode cX4_readScript 24 = .ok (.invokevirtual 38, 3) := by decide +kernel
theorem dX4_readScript_27 : decode cX4_readScript 27 = .ok (.ifCond .ne 6, 3) := by decide +kernel
theorem dX4_readScript_30 : decode cX4_readScript 30 = .ok (.goto 9, 3) := by decide +kernel
theorem dX4_readScript_33 : decode cX4_readScript 33 = .ok (.iinc 2 1, 3) := by decide +kernel
theorem dX4_readScript_36 : decode cX4_readScript 36 = .ok (.goto (-26), 3) := by decide +kernel
theorem dX4_readScript_39 : decode cX4_readScript 39 = .ok (.aload_n 0, 1) := by decide +kernel
theorem dX4_readScript_40 : decode cX4_readScript 40 = .ok (.invokevirtual 42, 3) := by decide +kernel
theorem dX4_readScript_43 : decode cX4_readScript 43 = .ok (.return_, 1) := by decide +kernel
theorem dX4_readCommand_0 : decode cX4_readCommand 0 = .ok (.aload_n 0, 1) := by decide +kernel
theorem dX4_readCommand_1 : decode cX4_readCommand 1 = .ok (.invokevirtual 67, 3) := by decide +kernel
theorem dX4_readCommand_4 : decode cX4_readCommand 4 = .ok (.astore_n 2, 1) := by decide +kernel
theorem dX4_readCommand_5 : decode cX4_readCommand 5 = .ok (.aload_n 2, 1) := by decide +kernel
theorem dX4_readCommand_6 : decode cX4_readCommand 6 = .ok (.ifnonnull 4, 3) := by decide +kernel
theorem dX4_readCommand_9 : decode cX4_readCommand 9 = .ok (.return_, 1) := by decide +kernel
theorem dX4_readCommand_10 : decode cX4_readCommand 10 = .ok (.aload_n 0, 1) := by decide +kernel
theorem dX4_readCommand_11 : decode cX4_readCommand 11 = .ok (.bipush 48, 2) := by decide +kernel
theorem dX4_readCommand_13 : decode cX4_readCommand 13 = .ok (.invokevirtual 53, 3) := by decide +kernel
theorem dX4_readCommand_16 : decode cX4_readCommand 16 = .ok (.istore_n 3, 1) := by decide +kernel
theorem dX4_readCommand_17 : decode cX4_readCommand 17 = .ok (.iconst 0, 1) := by decide +kernel
theorem dX4_readCommand_18 : decode cX4_readCommand 18 = .ok (.istore 4, 2) := by decide +kernel
theorem dX4_readCommand_20 : decode cX4_readCommand 20 = .ok (.aload_n 2, 1) := by decide +kernel
theorem dX4_readCommand_21 : decode cX4_readCommand 21 = .ok (.getfield 71, 3) := by decide +kernel
theorem dX4_readCommand_24 : decode cX4_readCommand 24 = .ok (.iconst 1, 1) := by decide +kernel
theorem dX4_readCommand_25 : decode cX4_readCommand 25 = .ok (.if_icmp .le 17, 3) := by decide +kernel
theorem dX4_readCommand_28 : decode cX4_readCommand 28 = .ok (.aload_n 0, 1) := by decide +kernel
theorem dX4_readCommand_29 : decode cX4_readCommand 29 = .ok (.bipush 32, 2) := by decide +kernel
theorem dX4_readCommand_31 : decode cX4_readCommand 31 = .ok (.invokevirtual 45, 3) := by decide +kernel
theorem dX4_readCommand_34 : decode cX4_readCommand 34 = .ok (.aload_n 0, 1) := by decide +kernel
theorem dX4_readCommand_35 : decode cX4_readCommand 35 = .ok (.bipush 48, 2) := by decide +kernel
theorem dX4_readCommand_37 : decode cX4_readCommand 37 = .ok (.invokevirtual 53, 3) := by decide +kernel
theorem dX4_readCommand_40 : decode cX4_readCommand 40 = .ok (.istore 4, 2) := by decide +kernel
theorem dX4_readCommand_42 : decode cX4_readCommand 42 = .ok (.iconst 0, 1) := by decide +kernel
theorem dX4_readCommand_43 : decode cX4_readCommand 43 = .ok (.istore 5, 2) := by decide +kernel
theorem dX4_readCommand_45 : decode cX4_readCommand 45 = .ok (.aload_n 2, 1) := by decide +kernel
theorem dX4_readCommand_46 : decode cX4_readCommand 46 = .ok (.getfield 71, 3) := by decide +kernel
theorem dX4_readCommand_49 : decode cX4_readCommand 49 = .ok (.iconst 2, 1) := by decide +kernel
theorem dX4_readCommand_50 : decode cX4_readCommand 50 = .ok (.if_icmp .le 37, 3) := by decide +kernel
theorem dX4_readCommand_53 : decode cX4_readCommand 53 = .ok (.aload_n 0, 1) := by decide +kernel
theorem dX4_readCommand_54 : decode cX4_readCommand 54 = .ok (.bipush 32, 2) := by decide +kernel
theorem dX4_readCommand_56 : decode cX4_readCommand 56 = .ok (.invokevirtual 45, 3) := by decide +kernel
theorem dX4_readCommand_59 : decode cX4_readCommand 59 = .ok (.aload_n 2, 1) := by decide +kernel
theorem dX4_readCommand_60 : decode cX4_readCommand 60 = .ok (.getfield 76, 3) := by decide +kernel
theorem dX4_readCommand_63 : decode cX4_readCommand 63 = .ok (.ifCond .eq 10, 3) := by decide +kernel
theorem dX4_readCommand_66 : decode cX4_readCommand 66 = .ok (.aload_n 0, 1) := by decide +kernel
theorem dX4_readCommand_67 : decode cX4_readCommand 67 = .ok (.invokevirtual 79, 3) := by decide +kernel
theorem dX4_readCommand_70 : decode cX4_readCommand 70 = .ok (.goto 4, 3) := by decide +kernel
theorem dX4_readCommand_73 : decode cX4_readCommand 73 = .ok (.iconst 1, 1) := by decide +kernel
theorem dX4_readCommand_74 : decode cX4_readCommand 74 = .ok (.istore 6, 2) := by decide +kernel
theorem dX4_readCommand_76 : decode cX4_readCommand 76 = .ok (.iload 6, 2) := by decide +kernel
theorem dX4_readCommand_78 : decode cX4_readCommand 78 = .ok (.aload_n 0, 1) := by decide +kernel
theorem dX4_readCommand_79 : decode cX4_readCommand 79 = .ok (.bipush 48, 2) := by decide +kernel
theorem dX4_readCommand_81 : decode cX4_readCommand 81 = .ok (.invokevirtual 53, 3) := by decide +kernel
theorem dX4_readCommand_84 : decode cX4_readCommand 84 = .ok (.imul, 1) := by decide +kernel
theorem dX4_readCommand_85 : decode cX4_readCommand 85 = .ok (.istore 5, 2) := by decide +kernel
theorem dX4_readCommand_87 : decode cX4_readCommand 87 = .ok (.aload_n 1, 1) := by decide +kernel
theorem dX4_readCommand_88 : decode cX4_readCommand 88 = .ok (.aload_n 2, 1) := by decide +kernel
theorem dX4_readCommand_89 : decode cX4_readCommand 89 = .ok (.iload_n 3, 1) := by decide +kernel
theorem dX4_readCommand_90 : decode cX4_readCommand 90 = .ok (.iload 4, 2) := by decide +kernel
theorem dX4_readCommand_92 : decode cX4_readCommand 92 = .ok (.iload 5, 2) := by decide +kernel
theorem dX4_readCommand_94 : decode cX4_readCommand 94 = .ok (.invokevirtual 83, 3) := by decide +kernel
theorem dX4_readCommand_97 : decode cX4_readCommand 97 = .ok (.return_, 1) := by decide +kernel
theorem dX4_readVerb_0 : decode cX4_readVerb 0 = .ok (.iconst 0, 1) := by decide +kernel
theorem dX4_readVerb_1 : decode cX4_readVerb 1 = .ok (.istore_n 1, 1) := by decide +kernel
theorem dX4_readVerb_2 : decode cX4_readVerb 2 = .ok (.iconst 0, 1) := by decide +kernel
theorem dX4_readVerb_3 : decode cX4_readVerb 3 = .ok (.istore_n 2, 1) := by decide +kernel
theorem dX4_readVerb_4 : decode cX4_readVerb 4 = .ok (.iload_n 2, 1) := by decide +kernel
theorem dX4_readVerb_5 : decode cX4_readVerb 5 = .ok (.getstatic 86, 3) := by decide +kernel
theorem dX4_readVerb_8 : decode cX4_readVerb 8 = .ok (.arraylength, 1) := by decide +kernel
theorem dX4_readVerb_9 : decode cX4_readVerb 9 = .ok (.if_icmp .ge 61, 3) := by decide +kernel
theorem dX4_readVerb_12 : decode cX4_readVerb 12 = .ok (.getstatic 86, 3) := by decide +kernel
theorem dX4_readVerb_15 : decode cX4_readVerb 15 = .ok (.iload_n 2, 1) := by decide +kernel
theorem dX4_readVerb_16 : decode cX4_readVerb 16 = .ok (.aaload, 1) := by decide +kernel
theorem dX4_readVerb_17 : decode cX4_readVerb 17 = .ok (.astore_n 3, 1) := by decide +kernel
theorem dX4_readVerb_18 : decode cX4_readVerb 18 = .ok (.aload_n 3, 1) := by decide +kernel
theorem dX4_readVerb_19 : decode cX4_readVerb 19 = .ok (.ifnull 45, 3) := by decide +kernel
theorem dX4_readVerb_22 : decode cX4_readVerb 22 = .ok (.aload_n 0, 1) := by decide +kernel
theorem dX4_readVerb_23 : decode cX4_readVerb 23 = .ok (.aload_n 3, 1) := by decide +kernel
theorem dX4_readVerb_24 : decode cX4_readVerb 24 = .ok (.getfield 90, 3) := by decide +kernel
theorem dX4_readVerb_27 : decode cX4_readVerb 27 = .ok (.invokevirtual 94, 3) := by decide +kernel
theorem dX4_readVerb_30 : decode cX4_readVerb 30 = .ok (.istore 4, 2) := by decide +kernel
theorem dX4_readVerb_32 : decode cX4_readVerb 32 = .ok (.iload 4, 2) := by decide +kernel
theorem dX4_readVerb_34 : decode cX4_readVerb 34 = .ok (.aload_n 3, 1) := by decide +kernel
theorem dX4_readVerb_35 : decode cX4_readVerb 35 = .ok (.getfield 90, 3) := by decide +kernel
theorem dX4_readVerb_38 : decode cX4_readVerb 38 = .ok (.invokevirtual 98, 3) := by decide +kernel
theorem dX4_readVerb_41 : decode cX4_readVerb 41 = .ok (.if_icmp .ne 16, 3) := by decide +kernel
theorem dX4_readVerb_44 : decode cX4_readVerb 44 = .ok (.aload_n 0, 1) := by decide +kernel
theorem dX4_readVerb_45 : decode cX4_readVerb 45 = .ok (.dup, 1) := by decide +kernel
theorem dX4_readVerb_46 : decode cX4_readVerb 46 = .ok (.getfield 19, 3) := by decide +kernel
theorem dX4_readVerb_49 : decode cX4_readVerb 49 = .ok (.iload 4, 2) := by decide +kernel
theorem dX4_readVerb_51 : decode cX4_readVerb 51 = .ok (.iadd, 1) := by decide +kernel
theorem dX4_readVerb_52 : decode cX4_readVerb 52 = .ok (.putfield 19, 3) := by decide +kernel
theorem dX4_readVerb_55 : decode cX4_readVerb 55 = .ok (.aload_n 3, 1) := by decide +kernel
theorem dX4_readVerb_56 : decode cX4_readVerb 56 = .ok (.areturn, 1) := by decide +kernel
theorem dX4_readVerb_57 : decode cX4_readVerb 57 = .ok (.iload_n 1, 1) := by decide +kernel
theorem dX4_readVerb_58 : decode cX4_readVerb 58 = .ok (.iload 4, 2) := by decide +kernel
theorem dX4_readVerb_60 : decode cX4_readVerb 60 = .ok (.invokestatic 102, 3) := by decide +kernel
theorem dX4_readVerb_63 : decode cX4_readVerb 63 = .ok (.istore_n 1, 1) := by decide +kernel
theorem dX4_readVerb_64 : decode cX4_readVerb 64 = .ok (.iinc 2 1, 3) := by decide +kernel
theorem dX4_readVerb_67 : decode cX4_readVerb 67 = .ok (.goto (-63), 3) := by decide +kernel
theorem dX4_readVerb_70 : decode cX4_readVerb 70 = .ok (.aload_n 0, 1) := by decide +kernel
theorem dX4_readVerb_71 : decode cX4_readVerb 71 = .ok (.dup, 1) := by decide +kernel
theorem dX4_readVerb_72 : decode cX4_readVerb 72 = .ok (.getfield 19, 3) := by decide +kernel
theorem dX4_readVerb_75 : decode cX4_readVerb 75 = .ok (.iload_n 1, 1) := by decide +kernel
theorem dX4_readVerb_76 : decode cX4_readVerb 76 = .ok (.iadd, 1) := by decide +kernel
theorem dX4_readVerb_77 : decode cX4_readVerb 77 = .ok (.putfield 19, 3) := by decide +kernel
theorem dX4_readVerb_80 : decode cX4_readVerb 80 = .ok (.aload_n 0, 1) := by decide +kernel
theorem dX4_readVerb_81 : decode cX4_readVerb 81 = .ok (.iconst 1, 1) := by decide +kernel
theorem dX4_readVerb_82 : decode cX4_readVerb 82 = .ok (.putfield 22, 3) := by decide +kernel
theorem dX4_readVerb_85 : decode cX4_readVerb 85 = .ok (.aconst_null, 1) := by decide +kernel
theorem dX4_readVerb_86 : decode cX4_readVerb 86 = .ok (.areturn, 1) := by decide +kernel
theorem dX4_matchedSigns_0 : decode cX4_matchedSigns 0 = .ok (.iconst 0, 1) := by decide +kernel
theorem dX4_matchedSigns_1 : decode cX4_matchedSigns 1 = .ok (.istore_n 2, 1) := by decide +kernel
theorem dX4_matchedSigns_2 : decode cX4_matchedSigns 2 = .ok (.iload_n 2, 1) := by decide +kernel
theorem dX4_matchedSigns_3 : decode cX4_matchedSigns 3 = .ok (.aload_n 1, 1) := by decide +kernel
theorem dX4_matchedSigns_4 : decode cX4_matchedSigns 4 = .ok (.invokevirtual 98, 3) := by decide +kernel
theorem dX4_matchedSigns_7 : decode cX4_matchedSigns 7 = .ok (.if_icmp .ge 27, 3) := by decide +kernel
theorem dX4_matchedSigns_10 : decode cX4_matchedSigns 10 = .ok (.aload_n 0, 1) := by decide +kernel
theorem dX4_matchedSigns_11 : decode cX4_matchedSigns 11 = .ok (.aload_n 0, 1) := by decide +kernel
theorem dX4_matchedSigns_12 : decode cX4_matchedSigns 12 = .ok (.getfield 19, 3) := by decide +kernel
theorem dX4_matchedSigns_15 : decode cX4_matchedSigns 15 = .ok (.iload_n 2, 1) := by decide +kernel
theorem dX4_matchedSigns_16 : decode cX4_matchedSigns 16 = .ok (.iadd, 1) := by decide +kernel
theorem dX4_matchedSigns_17 : decode cX4_matchedSigns 17 = .ok (.invokevirtual 108, 3) := by decide +kernel
theorem dX4_matchedSigns_20 : decode cX4_matchedSigns 20 = .ok (.aload_n 1, 1) := by decide +kernel
theorem dX4_matchedSigns_21 : decode cX4_matchedSigns 21 = .ok (.iload_n 2, 1) := by decide +kernel
theorem dX4_matchedSigns_22 : decode cX4_matchedSigns 22 = .ok (.invokevirtual 112, 3) := by decide +kernel
theorem dX4_matchedSigns_25 : decode cX4_matchedSigns 25 = .ok (.if_icmp .ne 9, 3) := by decide +kernel
theorem dX4_matchedSigns_28 : decode cX4_matchedSigns 28 = .ok (.iinc 2 1, 3) := by decide +kernel
theorem dX4_matchedSigns_31 : decode cX4_matchedSigns 31 = .ok (.goto (-29), 3) := by decide +kernel
theorem dX4_matchedSigns_34 : decode cX4_matchedSigns 34 = .ok (.iload_n 2, 1) := by decide +kernel
theorem dX4_matchedSigns_35 : decode cX4_matchedSigns 35 = .ok (.ireturn, 1) := by decide +kernel
theorem dX4_readSign_0 : decode cX4_readSign 0 = .ok (.aload_n 0, 1) := by decide +kernel
theorem dX4_readSign_1 : decode cX4_readSign 1 = .ok (.bipush 45, 2) := by decide +kernel
theorem dX4_readSign_3 : decode cX4_readSign 3 = .ok (.invokevirtual 38, 3) := by decide +kernel
theorem dX4_readSign_6 : decode cX4_readSign 6 = .ok (.ifCond .eq 5, 3) := by decide +kernel
theorem dX4_readSign_9 : decode cX4_readSign 9 = .ok (.iconst (-1), 1) := by decide +kernel
theorem dX4_readSign_10 : decode cX4_readSign 10 = .ok (.ireturn, 1) := by decide +kernel
theorem dX4_readSign_11 : decode cX4_readSign 11 = .ok (.aload_n 0, 1) := by decide +kernel
theorem dX4_readSign_12 : decode cX4_readSign 12 = .ok (.bipush 43, 2) := by decide +kernel
theorem dX4_readSign_14 : decode cX4_readSign 14 = .ok (.invokevirtual 45, 3) := by decide +kernel
theorem dX4_readSign_17 : decode cX4_readSign 17 = .ok (.iconst 1, 1) := by decide +kernel
theorem dX4_readSign_18 : decode cX4_readSign 18 = .ok (.ireturn, 1) := by decide +kernel
theorem dX4_readNumber_0 : decode cX4_readNumber 0 = .ok (.aload_n 0, 1) := by decide +kernel
theorem dX4_readNumber_1 : decode cX4_readNumber 1 = .ok (.iload_n 1, 1) := by decide +kernel
theorem dX4_readNumber_2 : decode cX4_readNumber 2 = .ok (.invokevirtual 49, 3) := by decide +kernel
theorem dX4_readNumber_5 : decode cX4_readNumber 5 = .ok (.istore_n 2, 1) := by decide +kernel
theorem dX4_readNumber_6 : decode cX4_readNumber 6 = .ok (.iconst 1, 1) := by decide +kernel
theorem dX4_readNumber_7 : decode cX4_readNumber 7 = .ok (.istore_n 3, 1) := by decide +kernel
theorem dX4_readNumber_8 : decode cX4_readNumber 8 = .ok (.iload_n 3, 1) := by decide +kernel
theorem dX4_readNumber_9 : decode cX4_readNumber 9 = .ok (.iconst 3, 1) := by decide +kernel
theorem dX4_readNumber_10 : decode cX4_readNumber 10 = .ok (.if_icmp .ge 30, 3) := by decide +kernel
theorem dX4_readNumber_13 : decode cX4_readNumber 13 = .ok (.aload_n 0, 1) := by decide +kernel
theorem dX4_readNumber_14 : decode cX4_readNumber 14 = .ok (.bipush 48, 2) := by decide +kernel
theorem dX4_readNumber_16 : decode cX4_readNumber 16 = .ok (.invokevirtual 115, 3) := by decide +kernel
theorem dX4_readNumber_19 : decode cX4_readNumber 19 = .ok (.ifCond .eq 21, 3) := by decide +kernel
theorem dX4_readNumber_22 : decode cX4_readNumber 22 = .ok (.bipush 10, 2) := by decide +kernel
theorem dX4_readNumber_24 : decode cX4_readNumber 24 = .ok (.iload_n 2, 1) := by decide +kernel
theorem dX4_readNumber_25 : decode cX4_readNumber 25 = .ok (.imul, 1) := by decide +kernel
theorem dX4_readNumber_26 : decode cX4_readNumber 26 = .ok (.aload_n 0, 1) := by decide +kernel
theorem dX4_readNumber_27 : decode cX4_readNumber 27 = .ok (.bipush 48, 2) := by decide +kernel
theorem dX4_readNumber_29 : decode cX4_readNumber 29 = .ok (.invokevirtual 49, 3) := by decide +kernel
theorem dX4_readNumber_32 : decode cX4_readNumber 32 = .ok (.iadd, 1) := by decide +kernel
theorem dX4_readNumber_33 : decode cX4_readNumber 33 = .ok (.istore_n 2, 1) := by decide +kernel
theorem dX4_readNumber_34 : decode cX4_readNumber 34 = .ok (.iinc 3 1, 3) := by decide +kernel
theorem dX4_readNumber_37 : decode cX4_readNumber 37 = .ok (.goto (-29), 3) := by decide +kernel
theorem dX4_readNumber_40 : decode cX4_readNumber 40 = .ok (.iload_n 2, 1) := by decide +kernel
theorem dX4_readNumber_41 : decode cX4_readNumber 41 = .ok (.ireturn, 1) := by decide +kernel
theorem dX4_readDigit_0 : decode cX4_readDigit 0 = .ok (.aload_n 0, 1) := by decide +kernel
theorem dX4_readDigit_1 : decode cX4_readDigit 1 = .ok (.iload_n 1, 1) := by decide +kernel
theorem dX4_readDigit_2 : decode cX4_readDigit 2 = .ok (.invokevirtual 115, 3) := by decide +kernel
theorem dX4_readDigit_5 : decode cX4_readDigit 5 = .ok (.ifCond .ne 10, 3) := by decide +kernel
theorem dX4_readDigit_8 : decode cX4_readDigit 8 = .ok (.aload_n 0, 1) := by decide +kernel
theorem dX4_readDigit_9 : decode cX4_readDigit 9 = .ok (.iconst 1, 1) := by decide +kernel
theorem dX4_readDigit_10 : decode cX4_readDigit 10 = .ok (.putfield 22, 3) := by decide +kernel
theorem dX4_readDigit_13 : decode cX4_readDigit 13 = .ok (.iconst 0, 1) := by decide +kernel
theorem dX4_readDigit_14 : decode cX4_readDigit 14 = .ok (.ireturn, 1) := by decide +kernel
theorem dX4_readDigit_15 : decode cX4_readDigit 15 = .ok (.aload_n 0, 1) := by decide +kernel
theorem dX4_readDigit_16 : decode cX4_readDigit 16 = .ok (.aload_n 0, 1) := by decide +kernel
theorem dX4_readDigit_17 : decode cX4_readDigit 17 = .ok (.getfield 19, 3) := by decide +kernel
theorem dX4_readDigit_20 : decode cX4_readDigit 20 = .ok (.invokevirtual 108, 3) := by decide +kernel
theorem dX4_readDigit_23 : decode cX4_readDigit 23 = .ok (.bipush 48, 2) := by decide +kernel
theorem dX4_readDigit_25 : decode cX4_readDigit 25 = .ok (.isub, 1) := by decide +kernel
theorem dX4_readDigit_26 : decode cX4_readDigit 26 = .ok (.istore_n 2, 1) := by decide +kernel
theorem dX4_readDigit_27 : decode cX4_readDigit 27 = .ok (.aload_n 0, 1) := by decide +kernel
theorem dX4_readDigit_28 : decode cX4_readDigit 28 = .ok (.dup, 1) := by decide +kernel
theorem dX4_readDigit_29 : decode cX4_readDigit 29 = .ok (.getfield 19, 3) := by decide +kernel
theorem dX4_readDigit_32 : decode cX4_readDigit 32 = .ok (.iconst 1, 1) := by decide +kernel
theorem dX4_readDigit_33 : decode cX4_readDigit 33 = .ok (.iadd, 1) := by decide +kernel
theorem dX4_readDigit_34 : decode cX4_readDigit 34 = .ok (.putfield 19, 3) := by decide +kernel
theorem dX4_readDigit_37 : decode cX4_readDigit 37 = .ok (.iload_n 2, 1) := by decide +kernel
theorem dX4_readDigit_38 : decode cX4_readDigit 38 = .ok (.ireturn, 1) := by decide +kernel
theorem dX4_isDigitNext_0 : decode cX4_isDigitNext 0 = .ok (.aload_n 0, 1) := by decide +kernel
theorem dX4_isDigitNext_1 : decode cX4_isDigitNext 1 = .ok (.aload_n 0, 1) := by decide +kernel
theorem dX4_isDigitNext_2 : decode cX4_isDigitNext 2 = .ok (.getfield 19, 3) := by decide +kernel
theorem dX4_isDigitNext_5 : decode cX4_isDigitNext 5 = .ok (.invokevirtual 108, 3) := by decide +kernel
theorem dX4_isDigitNext_8 : decode cX4_isDigitNext 8 = .ok (.istore_n 2, 1) := by decide +kernel
theorem dX4_isDigitNext_9 : decode cX4_isDigitNext 9 = .ok (.aload_n 0, 1) := by decide +kernel
theorem dX4_isDigitNext_10 : decode cX4_isDigitNext 10 = .ok (.getfield 22, 3) := by decide +kernel
theorem dX4_isDigitNext_13 : decode cX4_isDigitNext 13 = .ok (.ifCond .ne 18, 3) := by decide +kernel
theorem dX4_isDigitNext_16 : decode cX4_isDigitNext 16 = .ok (.iload_n 2, 1) := by decide +kernel
theorem dX4_isDigitNext_17 : decode cX4_isDigitNext 17 = .ok (.iload_n 1, 1) := by decide +kernel
theorem dX4_isDigitNext_18 : decode cX4_isDigitNext 18 = .ok (.if_icmp .lt 13, 3) := by decide +kernel
theorem dX4_isDigitNext_21 : decode cX4_isDigitNext 21 = .ok (.iload_n 2, 1) := by decide +kernel
theorem dX4_isDigitNext_22 : decode cX4_isDigitNext 22 = .ok (.bipush 57, 2) := by decide +kernel
theorem dX4_isDigitNext_24 : decode cX4_isDigitNext 24 = .ok (.if_icmp .gt 7, 3) := by decide +kernel
theorem dX4_isDigitNext_27 : decode cX4_isDigitNext 27 = .ok (.iconst 1, 1) := by decide +kernel
theorem dX4_isDigitNext_28 : decode cX4_isDigitNext 28 = .ok (.goto 4, 3) := by decide +kernel
theorem dX4_isDigitNext_31 : decode cX4_isDigitNext 31 = .ok (.iconst 0, 1) := by decide +kernel
theorem dX4_isDigitNext_32 : decode cX4_isDigitNext 32 = .ok (.ireturn, 1) := by decide +kernel
theorem dX4_startReading_0 : decode cX4_startReading 0 = .ok (.aload_n 0, 1) := by decide +kernel
theorem dX4_startReading_1 : decode cX4_startReading 1 = .ok (.iconst 0, 1) := by decide +kernel
theorem dX4_startReading_2 : decode cX4_startReading 2 = .ok (.putfield 19, 3) := by decide +kernel
theorem dX4_startReading_5 : decode cX4_startReading 5 = .ok (.aload_n 0, 1) := by decide +kernel
theorem dX4_startReading_6 : decode cX4_startReading 6 = .ok (.iconst 0, 1) := by decide +kernel
theorem dX4_startReading_7 : decode cX4_startReading 7 = .ok (.putfield 22, 3) := by decide +kernel
theorem dX4_startReading_10 : decode cX4_startReading 10 = .ok (.return_, 1) := by decide +kernel
theorem dX4_accept_0 : decode cX4_accept 0 = .ok (.aload_n 0, 1) := by decide +kernel
theorem dX4_accept_1 : decode cX4_accept 1 = .ok (.getfield 22, 3) := by decide +kernel
theorem dX4_accept_4 : decode cX4_accept 4 = .ok (.ifCond .ne 15, 3) := by decide +kernel
theorem dX4_accept_7 : decode cX4_accept 7 = .ok (.aload_n 0, 1) := by decide +kernel
theorem dX4_accept_8 : decode cX4_accept 8 = .ok (.aload_n 0, 1) := by decide +kernel
theorem dX4_accept_9 : decode cX4_accept 9 = .ok (.getfield 19, 3) := by decide +kernel
theorem dX4_accept_12 : decode cX4_accept 12 = .ok (.invokevirtual 108, 3) := by decide +kernel
theorem dX4_accept_15 : decode cX4_accept 15 = .ok (.iload_n 1, 1) := by decide +kernel
theorem dX4_accept_16 : decode cX4_accept 16 = .ok (.if_icmp .eq 5, 3) := by decide +kernel
theorem dX4_accept_19 : decode cX4_accept 19 = .ok (.iconst 0, 1) := by decide +kernel
theorem dX4_accept_20 : decode cX4_accept 20 = .ok (.ireturn, 1) := by decide +kernel
theorem dX4_accept_21 : decode cX4_accept 21 = .ok (.aload_n 0, 1) := by decide +kernel
theorem dX4_accept_22 : decode cX4_accept 22 = .ok (.dup, 1) := by decide +kernel
theorem dX4_accept_23 : decode cX4_accept 23 = .ok (.getfield 19, 3) := by decide +kernel
theorem dX4_accept_26 : decode cX4_accept 26 = .ok (.iconst 1, 1) := by decide +kernel
theorem dX4_accept_27 : decode cX4_accept 27 = .ok (.iadd, 1) := by decide +kernel
theorem dX4_accept_28 : decode cX4_accept 28 = .ok (.putfield 19, 3) := by decide +kernel
theorem dX4_accept_31 : decode cX4_accept 31 = .ok (.iconst 1, 1) := by decide +kernel
theorem dX4_accept_32 : decode cX4_accept 32 = .ok (.ireturn, 1) := by decide +kernel
theorem dX4_expect_0 : decode cX4_expect 0 = .ok (.aload_n 0, 1) := by decide +kernel
theorem dX4_expect_1 : decode cX4_expect 1 = .ok (.iload_n 1, 1) := by decide +kernel
theorem dX4_expect_2 : decode cX4_expect 2 = .ok (.invokevirtual 38, 3) := by decide +kernel
theorem dX4_expect_5 : decode cX4_expect 5 = .ok (.ifCond .ne 8, 3) := by decide +kernel
theorem dX4_expect_8 : decode cX4_expect 8 = .ok (.aload_n 0, 1) := by decide +kernel
theorem dX4_expect_9 : decode cX4_expect 9 = .ok (.iconst 1, 1) := by decide +kernel
theorem dX4_expect_10 : decode cX4_expect 10 = .ok (.putfield 22, 3) := by decide +kernel
theorem dX4_expect_13 : decode cX4_expect 13 = .ok (.return_, 1) := by decide +kernel
theorem dX4_expectEnd_0 : decode cX4_expectEnd 0 = .ok (.aload_n 0, 1) := by decide +kernel
theorem dX4_expectEnd_1 : decode cX4_expectEnd 1 = .ok (.getfield 19, 3) := by decide +kernel
theorem dX4_expectEnd_4 : decode cX4_expectEnd 4 = .ok (.aload_n 0, 1) := by decide +kernel
theorem dX4_expectEnd_5 : decode cX4_expectEnd 5 = .ok (.getfield 15, 3) := by decide +kernel
theorem dX4_expectEnd_8 : decode cX4_expectEnd 8 = .ok (.if_icmp .ge 8, 3) := by decide +kernel
theorem dX4_expectEnd_11 : decode cX4_expectEnd 11 = .ok (.aload_n 0, 1) := by decide +kernel
theorem dX4_expectEnd_12 : decode cX4_expectEnd 12 = .ok (.iconst 1, 1) := by decide +kernel
theorem dX4_expectEnd_13 : decode cX4_expectEnd 13 = .ok (.putfield 22, 3) := by decide +kernel
theorem dX4_expectEnd_16 : decode cX4_expectEnd 16 = .ok (.return_, 1) := by decide +kernel
theorem dX4_signAt_0 : decode cX4_signAt 0 = .ok (.iload_n 1, 1) := by decide +kernel
theorem dX4_signAt_1 : decode cX4_signAt 1 = .ok (.ifCond .lt 29, 3) := by decide +kernel
theorem dX4_signAt_4 : decode cX4_signAt 4 = .ok (.iload_n 1, 1) := by decide +kernel
theorem dX4_signAt_5 : decode cX4_signAt 5 = .ok (.aload_n 0, 1) := by decide +kernel
theorem dX4_signAt_6 : decode cX4_signAt 6 = .ok (.getfield 15, 3) := by decide +kernel
theorem dX4_signAt_9 : decode cX4_signAt 9 = .ok (.if_icmp .ge 21, 3) := by decide +kernel
theorem dX4_signAt_12 : decode cX4_signAt 12 = .ok (.iload_n 1, 1) := by decide +kernel
theorem dX4_signAt_13 : decode cX4_signAt 13 = .ok (.aload_n 0, 1) := by decide +kernel
theorem dX4_signAt_14 : decode cX4_signAt 14 = .ok (.getfield 9, 3) := by decide +kernel
theorem dX4_signAt_17 : decode cX4_signAt 17 = .ok (.arraylength, 1) := by decide +kernel
theorem dX4_signAt_18 : decode cX4_signAt 18 = .ok (.if_icmp .ge 12, 3) := by decide +kernel
theorem dX4_signAt_21 : decode cX4_signAt 21 = .ok (.aload_n 0, 1) := by decide +kernel
theorem dX4_signAt_22 : decode cX4_signAt 22 = .ok (.getfield 9, 3) := by decide +kernel
theorem dX4_signAt_25 : decode cX4_signAt 25 = .ok (.iload_n 1, 1) := by decide +kernel
theorem dX4_signAt_26 : decode cX4_signAt 26 = .ok (.caload, 1) := by decide +kernel
theorem dX4_signAt_27 : decode cX4_signAt 27 = .ok (.goto 4, 3) := by decide +kernel
theorem dX4_signAt_30 : decode cX4_signAt 30 = .ok (.iconst 0, 1) := by decide +kernel
theorem dX4_signAt_31 : decode cX4_signAt 31 = .ok (.ireturn, 1) := by decide +kernel
theorem dX5_init_0 : decode cX5_init 0 = .ok (.aload_n 0, 1) := by decide +kernel
theorem dX5_init_1 : decode cX5_init 1 = .ok (.invokespecial 3, 3) := by decide +kernel
theorem dX5_init_4 : decode cX5_init 4 = .ok (.aload_n 0, 1) := by decide +kernel
theorem dX5_init_5 : decode cX5_init 5 = .ok (.sipush 200, 3) := by decide +kernel
theorem dX5_init_8 : decode cX5_init 8 = .ok (.newarray .int, 2) := by decide +kernel
theorem dX5_init_10 : decode cX5_init 10 = .ok (.putfield 9, 3) := by decide +kernel
theorem dX5_init_13 : decode cX5_init 13 = .ok (.return_, 1) := by decide +kernel
theorem dX5_size_0 : decode cX5_size 0 = .ok (.aload_n 0, 1) := by decide +kernel
theorem dX5_size_1 : decode cX5_size 1 = .ok (.getfield 15, 3) := by decide +kernel
theorem dX5_size_4 : decode cX5_size 4 = .ok (.ireturn, 1) := by decide +kernel
theorem dX5_hasTick_0 : decode cX5_hasTick 0 = .ok (.iload_n 1, 1) := by decide +kernel
theorem dX5_hasTick_1 : decode cX5_hasTick 1 = .ok (.ifCond .lt 15, 3) := by decide +kernel
theorem dX5_hasTick_4 : decode cX5_hasTick 4 = .ok (.iload_n 1, 1) := by decide +kernel
theorem dX5_hasTick_5 : decode cX5_hasTick 5 = .ok (.aload_n 0, 1) := by decide +kernel
theorem dX5_hasTick_6 : decode cX5_hasTick 6 = .ok (.getfield 15, 3) := by decide +kernel
theorem dX5_hasTick_9 : decode cX5_hasTick 9 = .ok (.if_icmp .ge 7, 3) := by decide +kernel
theorem dX5_hasTick_12 : decode cX5_hasTick 12 = .ok (.iconst 1, 1) := by decide +kernel
theorem dX5_hasTick_13 : decode cX5_hasTick 13 = .ok (.goto 4, 3) := by decide +kernel
theorem dX5_hasTick_16 : decode cX5_hasTick 16 = .ok (.iconst 0, 1) := by decide +kernel
theorem dX5_hasTick_17 : decode cX5_hasTick 17 = .ok (.ireturn, 1) := by decide +kernel
theorem dX5_hasInterval_0 : decode cX5_hasInterval 0 = .ok (.iload_n 1, 1) := by decide +kernel
theorem dX5_hasInterval_1 : decode cX5_hasInterval 1 = .ok (.ifCond .lt 20, 3) := by decide +kernel
theorem dX5_hasInterval_4 : decode cX5_hasInterval 4 = .ok (.iload_n 1, 1) := by decide +kernel
theorem dX5_hasInterval_5 : decode cX5_hasInterval 5 = .ok (.iload_n 2, 1) := by decide +kernel
theorem dX5_hasInterval_6 : decode cX5_hasInterval 6 = .ok (.if_icmp .gt 15, 3) := by decide +kernel
theorem dX5_hasInterval_9 : decode cX5_hasInterval 9 = .ok (.iload_n 2, 1) := by decide +kernel
theorem dX5_hasInterval_10 : decode cX5_hasInterval 10 = .ok (.aload_n 0, 1) := by decide +kernel
theorem dX5_hasInterval_11 : decode cX5_hasInterval 11 = .ok (.getfield 15, 3) := by decide +kernel
theorem dX5_hasInterval_14 : decode cX5_hasInterval 14 = .ok (.if_icmp .gt 7, 3) := by decide +kernel
theorem dX5_hasInterval_17 : decode cX5_hasInterval 17 = .ok (.iconst 1, 1) := by decide +kernel
theorem dX5_hasInterval_18 : decode cX5_hasInterval 18 = .ok (.goto 4, 3) := by decide +kernel
theorem dX5_hasInterval_21 : decode cX5_hasInterval 21 = .ok (.iconst 0, 1) := by decide +kernel
theorem dX5_hasInterval_22 : decode cX5_hasInterval 22 = .ok (.ireturn, 1) := by decide +kernel
theorem dX5_at_0 : decode cX5_at 0 = .ok (.iload_n 1, 1) := by decide +kernel
theorem dX5_at_1 : decode cX5_at 1 = .ok (.ifCond .lt 21, 3) := by decide +kernel
theorem dX5_at_4 : decode cX5_at 4 = .ok (.iload_n 1, 1) := by decide +kernel
theorem dX5_at_5 : decode cX5_at 5 = .ok (.aload_n 0, 1) := by decide +kernel
theorem dX5_at_6 : decode cX5_at 6 = .ok (.getfield 9, 3) := by decide +kernel
theorem dX5_at_9 : decode cX5_at 9 = .ok (.arraylength, 1) := by decide +kernel
theorem dX5_at_10 : decode cX5_at 10 = .ok (.if_icmp .ge 12, 3) := by decide +kernel
theorem dX5_at_13 : decode cX5_at 13 = .ok (.aload_n 0, 1) := by decide +kernel
theorem dX5_at_14 : decode cX5_at 14 = .ok (.getfield 9, 3) := by decide +kernel
theorem dX5_at_17 : decode cX5_at 17 = .ok (.iload_n 1, 1) := by decide +kernel
theorem dX5_at_18 : decode cX5_at 18 = .ok (.iaload, 1) := by decide +kernel
theorem dX5_at_19 : decode cX5_at 19 = .ok (.goto 4, 3) := by decide +kernel
theorem dX5_at_22 : decode cX5_at 22 = .ok (.iconst 0, 1) := by decide +kernel
theorem dX5_at_23 : decode cX5_at 23 = .ok (.ireturn, 1) := by decide +kernel
theorem dX5_put_0 : decode cX5_put 0 = .ok (.iload_n 1, 1) := by decide +kernel
theorem dX5_put_1 : decode cX5_put 1 = .ok (.ifCond .lt 19, 3) := by decide +kernel
theorem dX5_put_4 : decode cX5_put 4 = .ok (.iload_n 1, 1) := by decide +kernel
theorem dX5_put_5 : decode cX5_put 5 = .ok (.aload_n 0, 1) := by decide +kernel
theorem dX5_put_6 : decode cX5_put 6 = .ok (.getfield 9, 3) := by decide +kernel
theorem dX5_put_9 : decode cX5_put 9 = .ok (.arraylength, 1) := by decide +kernel
theorem dX5_put_10 : decode cX5_put 10 = .ok (.if_icmp .ge 10, 3) := by decide +kernel
theorem dX5_put_13 : decode cX5_put 13 = .ok (.aload_n 0, 1) := by decide +kernel
theorem dX5_put_14 : decode cX5_put 14 = .ok (.getfield 9, 3) := by decide +kernel
theorem dX5_put_17 : decode cX5_put 17 = .ok (.iload_n 1, 1) := by decide +kernel
theorem dX5_put_18 : decode cX5_put 18 = .ok (.iload_n 2, 1) := by decide +kernel
theorem dX5_put_19 : decode cX5_put 19 = .ok (.iastore, 1) := by decide +kernel
theorem dX5_put_20 : decode cX5_put 20 = .ok (.return_, 1) := by decide +kernel
theorem dX5_append_0 : decode cX5_append 0 = .ok (.aload_n 0, 1) := by decide +kernel
theorem dX5_append_1 : decode cX5_append 1 = .ok (.getfield 15, 3) := by decide +kernel
theorem dX5_append_4 : decode cX5_append 4 = .ok (.ifCond .lt 35, 3) := by decide +kernel
theorem dX5_append_7 : decode cX5_append 7 = .ok (.aload_n 0, 1) := by decide +kernel
theorem dX5_append_8 : decode cX5_append 8 = .ok (.getfield 15, 3) := by decide +kernel
theorem dX5_append_11 : decode cX5_append 11 = .ok (.aload_n 0, 1) := by decide +kernel
theorem dX5_append_12 : decode cX5_append 12 = .ok (.getfield 9, 3) := by decide +kernel
theorem dX5_append_15 : decode cX5_append 15 = .ok (.arraylength, 1) := by decide +kernel
theorem dX5_append_16 : decode cX5_append 16 = .ok (.if_icmp .ge 23, 3) := by decide +kernel
theorem dX5_append_19 : decode cX5_append 19 = .ok (.aload_n 0, 1) := by decide +kernel
theorem dX5_append_20 : decode cX5_append 20 = .ok (.getfield 9, 3) := by decide +kernel
theorem dX5_append_23 : decode cX5_append 23 = .ok (.aload_n 0, 1) := by decide +kernel
theorem dX5_append_24 : decode cX5_append 24 = .ok (.getfield 15, 3) := by decide +kernel
theorem dX5_append_27 : decode cX5_append 27 = .ok (.iload_n 1, 1) := by decide +kernel
theorem dX5_append_28 : decode cX5_append 28 = .ok (.iastore, 1) := by decide +kernel
theorem dX5_append_29 : decode cX5_append 29 = .ok (.aload_n 0, 1) := by decide +kernel
theorem dX5_append_30 : decode cX5_append 30 = .ok (.dup, 1) := by decide +kernel
theorem dX5_append_31 : decode cX5_append 31 = .ok (.getfield 15, 3) := by decide +kernel
theorem dX5_append_34 : decode cX5_append 34 = .ok (.iconst 1, 1) := by decide +kernel
theorem dX5_append_35 : decode cX5_append 35 = .ok (.iadd, 1) := by decide +kernel
theorem dX5_append_36 : decode cX5_append 36 = .ok (.putfield 15, 3) := by decide +kernel
theorem dX5_append_39 : decode cX5_append 39 = .ok (.return_, 1) := by decide +kernel
theorem dX5_clear_0 : decode cX5_clear 0 = .ok (.aload_n 0, 1) := by decide +kernel
theorem dX5_clear_1 : decode cX5_clear 1 = .ok (.iconst 0, 1) := by decide +kernel
theorem dX5_clear_2 : decode cX5_clear 2 = .ok (.putfield 15, 3) := by decide +kernel
theorem dX5_clear_5 : decode cX5_clear 5 = .ok (.return_, 1) := by decide +kernel
theorem dX5_become_0 : decode cX5_become 0 = .ok (.aload_n 0, 1) := by decide +kernel
theorem dX5_become_1 : decode cX5_become 1 = .ok (.aload_n 1, 1) := by decide +kernel
theorem dX5_become_2 : decode cX5_become 2 = .ok (.iconst 0, 1) := by decide +kernel
theorem dX5_become_3 : decode cX5_become 3 = .ok (.aload_n 1, 1) := by decide +kernel
theorem dX5_become_4 : decode cX5_become 4 = .ok (.getfield 15, 3) := by decide +kernel
theorem dX5_become_7 : decode cX5_become 7 = .ok (.invokevirtual 19, 3) := by decide +kernel
theorem dX5_become_10 : decode cX5_become 10 = .ok (.return_, 1) := by decide +kernel
theorem dX5_takeInterval_0 : decode cX5_takeInterval 0 = .ok (.aload_n 0, 1) := by decide +kernel
theorem dX5_takeInterval_1 : decode cX5_takeInterval 1 = .ok (.invokevirtual 23, 3) := by decide +kernel
theorem dX5_takeInterval_4 : decode cX5_takeInterval 4 = .ok (.iload_n 2, 1) := by decide +kernel
theorem dX5_takeInterval_5 : decode cX5_takeInterval 5 = .ok (.istore 4, 2) := by decide +kernel
theorem dX5_takeInterval_7 : decode cX5_takeInterval 7 = .ok (.iload 4, 2) := by decide +kernel
theorem dX5_takeInterval_9 : decode cX5_takeInterval 9 = .ok (.iload_n 3, 1) := by decide +kernel
theorem dX5_takeInterval_10 : decode cX5_takeInterval 10 = .ok (.if_icmp .ge 19, 3) := by decide +kernel
theorem dX5_takeInterval_13 : decode cX5_takeInterval 13 = .ok (.aload_n 0, 1) := by decide +kernel
theorem dX5_takeInterval_14 : decode cX5_takeInterval 14 = .ok (.aload_n 1, 1) := by decide +kernel
theorem dX5_takeInterval_15 : decode cX5_takeInterval 15 = .ok (.iload 4, 2) := by decide +kernel
theorem dX5_takeInterval_17 : decode cX5_takeInterval 17 = .ok (.invokevirtual 26, 3) := by decide +kernel
theorem dX5_takeInterval_20 : decode cX5_takeInterval 20 = .ok (.invokevirtual 30, 3) := by decide +kernel
theorem dX5_takeInterval_23 : decode cX5_takeInterval 23 = .ok (.iinc 4 1, 3) := by decide +kernel
theorem dX5_takeInterval_26 : decode cX5_takeInterval 26 = .ok (.goto (-19), 3) := by decide +kernel
theorem dX5_takeInterval_29 : decode cX5_takeInterval 29 = .ok (.return_, 1) := by decide +kernel
theorem dX5_open_0 : decode cX5_open 0 = .ok (.aload_n 0, 1) := by decide +kernel
theorem dX5_open_1 : decode cX5_open 1 = .ok (.getfield 15, 3) := by decide +kernel
theorem dX5_open_4 : decode cX5_open 4 = .ok (.iconst 1, 1) := by decide +kernel
theorem dX5_open_5 : decode cX5_open 5 = .ok (.isub, 1) := by decide +kernel
theorem dX5_open_6 : decode cX5_open 6 = .ok (.istore_n 3, 1) := by decide +kernel
theorem dX5_open_7 : decode cX5_open 7 = .ok (.iload_n 3, 1) := by decide +kernel
theorem dX5_open_8 : decode cX5_open 8 = .ok (.iload_n 1, 1) := by decide +kernel
theorem dX5_open_9 : decode cX5_open 9 = .ok (.if_icmp .lt 21, 3) := by decide +kernel
theorem dX5_open_12 : decode cX5_open 12 = .ok (.aload_n 0, 1) := by decide +kernel
theorem dX5_open_13 : decode cX5_open 13 = .ok (.iload_n 3, 1) := by decide +kernel
theorem dX5_open_14 : decode cX5_open 14 = .ok (.iload_n 2, 1) := by decide +kernel
theorem dX5_open_15 : decode cX5_open 15 = .ok (.iadd, 1) := by decide +kernel
theorem dX5_open_16 : decode cX5_open 16 = .ok (.aload_n 0, 1) := by decide +kernel
theorem dX5_open_17 : decode cX5_open 17 = .ok (.iload_n 3, 1) := by decide +kernel
theorem dX5_open_18 : decode cX5_open 18 = .ok (.invokevirtual 26, 3) := by decide +kernel
theorem dX5_open_21 : decode cX5_open 21 = .ok (.invokevirtual 34, 3) := by decide +kernel
theorem dX5_open_24 : decode cX5_open 24 = .ok (.iinc 3 (-1), 3) := by decide +kernel
theorem dX5_open_27 : decode cX5_open 27 = .ok (.goto (-20), 3) := by decide +kernel
theorem dX5_open_30 : decode cX5_open 30 = .ok (.iload_n 1, 1) := by decide +kernel
theorem dX5_open_31 : decode cX5_open 31 = .ok (.istore_n 3, 1) := by decide +kernel
theorem dX5_open_32 : decode cX5_open 32 = .ok (.iload_n 3, 1) := by decide +kernel
theorem dX5_open_33 : decode cX5_open 33 = .ok (.iload_n 1, 1) := by decide +kernel
theorem dX5_open_34 : decode cX5_open 34 = .ok (.iload_n 2, 1) := by decide +kernel
theorem dX5_open_35 : decode cX5_open 35 = .ok (.iadd, 1) := by decide +kernel
theorem dX5_open_36 : decode cX5_open 36 = .ok (.if_icmp .ge 15, 3) := by decide +kernel
theorem dX5_open_39 : decode cX5_open 39 = .ok (.aload_n 0, 1) := by decide +kernel
theorem dX5_open_40 : decode cX5_open 40 = .ok (.iload_n 3, 1) := by decide +kernel
theorem dX5_open_41 : decode cX5_open 41 = .ok (.iconst 0, 1) := by decide +kernel
theorem dX5_open_42 : decode cX5_open 42 = .ok (.invokevirtual 34, 3) := by decide +kernel
theorem dX5_open_45 : decode cX5_open 45 = .ok (.iinc 3 1, 3) := by decide +kernel
theorem dX5_open_48 : decode cX5_open 48 = .ok (.goto (-16), 3) := by decide +kernel
theorem dX5_open_51 : decode cX5_open 51 = .ok (.aload_n 0, 1) := by decide +kernel
theorem dX5_open_52 : decode cX5_open 52 = .ok (.dup, 1) := by decide +kernel
theorem dX5_open_53 : decode cX5_open 53 = .ok (.getfield 15, 3) := by decide +kernel
theorem dX5_open_56 : decode cX5_open 56 = .ok (.iload_n 2, 1) := by decide +kernel
theorem dX5_open_57 : decode cX5_open 57 = .ok (.iadd, 1) := by decide +kernel
theorem dX5_open_58 : decode cX5_open 58 = .ok (.putfield 15, 3) := by decide +kernel
theorem dX5_open_61 : decode cX5_open 61 = .ok (.return_, 1) := by decide +kernel
theorem dX5_close_0 : decode cX5_close 0 = .ok (.iload_n 2, 1) := by decide +kernel
theorem dX5_close_1 : decode cX5_close 1 = .ok (.istore_n 3, 1) := by decide +kernel
theorem dX5_close_2 : decode cX5_close 2 = .ok (.iload_n 3, 1) := by decide +kernel
theorem dX5_close_3 : decode cX5_close 3 = .ok (.aload_n 0, 1) := by decide +kernel
theorem dX5_close_4 : decode cX5_close 4 = .ok (.getfield 15, 3) := by decide +kernel
theorem dX5_close_7 : decode cX5_close 7 = .ok (.if_icmp .ge 23, 3) := by decide +kernel
theorem dX5_close_10 : decode cX5_close 10 = .ok (.aload_n 0, 1) := by decide +kernel
theorem dX5_close_11 : decode cX5_close 11 = .ok (.iload_n 3, 1) := by decide +kernel
theorem dX5_close_12 : decode cX5_close 12 = .ok (.iload_n 2, 1) := by decide +kernel
theorem dX5_close_13 : decode cX5_close 13 = .ok (.iload_n 1, 1) := by decide +kernel
theorem dX5_close_14 : decode cX5_close 14 = .ok (.isub, 1) := by decide +kernel
theorem dX5_close_15 : decode cX5_close 15 = .ok (.isub, 1) := by decide +kernel
theorem dX5_close_16 : decode cX5_close 16 = .ok (.aload_n 0, 1) := by decide +kernel
theorem dX5_close_17 : decode cX5_close 17 = .ok (.iload_n 3, 1) := by decide +kernel
theorem dX5_close_18 : decode cX5_close 18 = .ok (.invokevirtual 26, 3) := by decide +kernel
theorem dX5_close_21 : decode cX5_close 21 = .ok (.invokevirtual 34, 3) := by decide +kernel
theorem dX5_close_24 : decode cX5_close 24 = .ok (.iinc 3 1, 3) := by decide +kernel
theorem dX5_close_27 : decode cX5_close 27 = .ok (.goto (-25), 3) := by decide +kernel
theorem dX5_close_30 : decode cX5_close 30 = .ok (.aload_n 0, 1) := by decide +kernel
theorem dX5_close_31 : decode cX5_close 31 = .ok (.dup, 1) := by decide +kernel
theorem dX5_close_32 : decode cX5_close 32 = .ok (.getfield 15, 3) := by decide +kernel
theorem dX5_close_35 : decode cX5_close 35 = .ok (.iload_n 2, 1) := by decide +kernel
theorem dX5_close_36 : decode cX5_close 36 = .ok (.iload_n 1, 1) := by decide +kernel
theorem dX5_close_37 : decode cX5_close 37 = .ok (.isub, 1) := by decide +kernel
theorem dX5_close_38 : decode cX5_close 38 = .ok (.isub, 1) := by decide +kernel
theorem dX5_close_39 : decode cX5_close 39 = .ok (.putfield 15, 3) := by decide +kernel
theorem dX5_close_42 : decode cX5_close 42 = .ok (.return_, 1) := by decide +kernel
theorem dX5_fill_0 : decode cX5_fill 0 = .ok (.iload_n 1, 1) := by decide +kernel
theorem dX5_fill_1 : decode cX5_fill 1 = .ok (.istore 4, 2) := by decide +kernel
theorem dX5_fill_3 : decode cX5_fill 3 = .ok (.iload 4, 2) := by decide +kernel
theorem dX5_fill_5 : decode cX5_fill 5 = .ok (.iload_n 2, 1) := by decide +kernel
theorem dX5_fill_6 : decode cX5_fill 6 = .ok (.if_icmp .ge 16, 3) := by decide +kernel
theorem dX5_fill_9 : decode cX5_fill 9 = .ok (.aload_n 0, 1) := by decide +kernel
theorem dX5_fill_10 : decode cX5_fill 10 = .ok (.iload 4, 2) := by decide +kernel
theorem dX5_fill_12 : decode cX5_fill 12 = .ok (.iload_n 3, 1) := by decide +kernel
theorem dX5_fill_13 : decode cX5_fill 13 = .ok (.invokevirtual 34, 3) := by decide +kernel
theorem dX5_fill_16 : decode cX5_fill 16 = .ok (.iinc 4 1, 3) := by decide +kernel
theorem dX5_fill_19 : decode cX5_fill 19 = .ok (.goto (-16), 3) := by decide +kernel
theorem dX5_fill_22 : decode cX5_fill 22 = .ok (.return_, 1) := by decide +kernel
theorem dX5_sum_0 : decode cX5_sum 0 = .ok (.iconst 0, 1) := by decide +kernel
theorem dX5_sum_1 : decode cX5_sum 1 = .ok (.istore_n 3, 1) := by decide +kernel
theorem dX5_sum_2 : decode cX5_sum 2 = .ok (.iload_n 1, 1) := by decide +kernel
theorem dX5_sum_3 : decode cX5_sum 3 = .ok (.istore 4, 2) := by decide +kernel
theorem dX5_sum_5 : decode cX5_sum 5 = .ok (.iload 4, 2) := by decide +kernel
theorem dX5_sum_7 : decode cX5_sum 7 = .ok (.iload_n 2, 1) := by decide +kernel
theorem dX5_sum_8 : decode cX5_sum 8 = .ok (.if_icmp .ge 18, 3) := by decide +kernel
theorem dX5_sum_11 : decode cX5_sum 11 = .ok (.iload_n 3, 1) := by decide +kernel
theorem dX5_sum_12 : decode cX5_sum 12 = .ok (.aload_n 0, 1) := by decide +kernel
theorem dX5_sum_13 : decode cX5_sum 13 = .ok (.iload 4, 2) := by decide +kernel
theorem dX5_sum_15 : decode cX5_sum 15 = .ok (.invokevirtual 26, 3) := by decide +kernel
theorem dX5_sum_18 : decode cX5_sum 18 = .ok (.iadd, 1) := by decide +kernel
theorem dX5_sum_19 : decode cX5_sum 19 = .ok (.istore_n 3, 1) := by decide +kernel
theorem dX5_sum_20 : decode cX5_sum 20 = .ok (.iinc 4 1, 3) := by decide +kernel
theorem dX5_sum_23 : decode cX5_sum 23 = .ok (.goto (-18), 3) := by decide +kernel
theorem dX5_sum_26 : decode cX5_sum 26 = .ok (.iload_n 3, 1) := by decide +kernel
theorem dX5_sum_27 : decode cX5_sum 27 = .ok (.ireturn, 1) := by decide +kernel
theorem dX5_soundingTicks_0 : decode cX5_soundingTicks 0 = .ok (.iconst 0, 1) := by decide +kernel
theorem dX5_soundingTicks_1 : decode cX5_soundingTicks 1 = .ok (.istore_n 3, 1) := by decide +kernel
theorem dX5_soundingTicks_2 : decode cX5_soundingTicks 2 = .ok (.iload_n 1, 1) := by decide +kernel
theorem dX5_soundingTicks_3 : decode cX5_soundingTicks 3 = .ok (.istore 4, 2) := by decide +kernel
theorem dX5_soundingTicks_5 : decode cX5_soundingTicks 5 = .ok (.iload 4, 2) := by decide +kernel
theorem dX5_soundingTicks_7 : decode cX5_soundingTicks 7 = .ok (.iload_n 2, 1) := by decide +kernel
theorem dX5_soundingTicks_8 : decode cX5_soundingTicks 8 = .ok (.if_icmp .ge 21, 3) := by decide +kernel
theorem dX5_soundingTicks_11 : decode cX5_soundingTicks 11 = .ok (.aload_n 0, 1) := by decide +kernel
theorem dX5_soundingTicks_12 : decode cX5_soundingTicks 12 = .ok (.iload 4, 2) := by decide +kernel
theorem dX5_soundingTicks_14 : decode cX5_soundingTicks 14 = .ok (.invokevirtual 26, 3) := by decide +kernel
theorem dX5_soundingTicks_17 : decode cX5_soundingTicks 17 = .ok (.ifCond .eq 6, 3) := by decide +kernel
theorem dX5_soundingTicks_20 : decode cX5_soundingTicks 20 = .ok (.iinc 3 1, 3) := by decide +kernel
theorem dX5_soundingTicks_23 : decode cX5_soundingTicks 23 = .ok (.iinc 4 1, 3) := by decide +kernel
theorem dX5_soundingTicks_26 : decode cX5_soundingTicks 26 = .ok (.goto (-21), 3) := by decide +kernel
theorem dX5_soundingTicks_29 : decode cX5_soundingTicks 29 = .ok (.iload_n 3, 1) := by decide +kernel
theorem dX5_soundingTicks_30 : decode cX5_soundingTicks 30 = .ok (.ireturn, 1) := by decide +kernel
theorem dX5_countOf_0 : decode cX5_countOf 0 = .ok (.iconst 0, 1) := by decide +kernel
theorem dX5_countOf_1 : decode cX5_countOf 1 = .ok (.istore_n 2, 1) := by decide +kernel
theorem dX5_countOf_2 : decode cX5_countOf 2 = .ok (.iconst 0, 1) := by decide +kernel
theorem dX5_countOf_3 : decode cX5_countOf 3 = .ok (.istore_n 3, 1) := by decide +kernel
theorem dX5_countOf_4 : decode cX5_countOf 4 = .ok (.iload_n 3, 1) := by decide +kernel
theorem dX5_countOf_5 : decode cX5_countOf 5 = .ok (.aload_n 0, 1) := by decide +kernel
theorem dX5_countOf_6 : decode cX5_countOf 6 = .ok (.getfield 15, 3) := by decide +kernel
theorem dX5_countOf_9 : decode cX5_countOf 9 = .ok (.if_icmp .ge 21, 3) := by decide +kernel
theorem dX5_countOf_12 : decode cX5_countOf 12 = .ok (.aload_n 0, 1) := by decide +kernel
theorem dX5_countOf_13 : decode cX5_countOf 13 = .ok (.iload_n 3, 1) := by decide +kernel
theorem dX5_countOf_14 : decode cX5_countOf 14 = .ok (.invokevirtual 26, 3) := by decide +kernel
theorem dX5_countOf_17 : decode cX5_countOf 17 = .ok (.iload_n 1, 1) := by decide +kernel
theorem dX5_countOf_18 : decode cX5_countOf 18 = .ok (.if_icmp .ne 6, 3) := by decide +kernel
theorem dX5_countOf_21 : decode cX5_countOf 21 = .ok (.iinc 2 1, 3) := by decide +kernel
theorem dX5_countOf_24 : decode cX5_countOf 24 = .ok (.iinc 3 1, 3) := by decide +kernel
theorem dX5_countOf_27 : decode cX5_countOf 27 = .ok (.goto (-23), 3) := by decide +kernel
theorem dX5_countOf_30 : decode cX5_countOf 30 = .ok (.iload_n 2, 1) := by decide +kernel
theorem dX5_countOf_31 : decode cX5_countOf 31 = .ok (.ireturn, 1) := by decide +kernel
theorem dX5_isSame_0 : decode cX5_isSame 0 = .ok (.iconst 0, 1) := by decide +kernel
theorem dX5_isSame_1 : decode cX5_isSame 1 = .ok (.istore 4, 2) := by decide +kernel
theorem dX5_isSame_3 : decode cX5_isSame 3 = .ok (.iload 4, 2) := by decide +kernel
theorem dX5_isSame_5 : decode cX5_isSame 5 = .ok (.iload_n 3, 1) := by decide +kernel
theorem dX5_isSame_6 : decode cX5_isSame 6 = .ok (.if_icmp .ge 30, 3) := by decide +kernel
theorem dX5_isSame_9 : decode cX5_isSame 9 = .ok (.aload_n 0, 1) := by decide +kernel
theorem dX5_isSame_10 : decode cX5_isSame 10 = .ok (.iload_n 1, 1) := by decide +kernel
theorem dX5_isSame_11 : decode cX5_isSame 11 = .ok (.iload 4, 2) := by decide +kernel
theorem dX5_isSame_13 : decode cX5_isSame 13 = .ok (.iadd, 1) := by decide +kernel
theorem dX5_isSame_14 : decode cX5_isSame 14 = .ok (.invokevirtual 26, 3) := by decide +kernel
theorem dX5_isSame_17 : decode cX5_isSame 17 = .ok (.aload_n 0, 1) := by decide +kernel
theorem dX5_isSame_18 : decode cX5_isSame 18 = .ok (.iload_n 2, 1) := by decide +kernel
theorem dX5_isSame_19 : decode cX5_isSame 19 = .ok (.iload 4, 2) := by decide +kernel
theorem dX5_isSame_21 : decode cX5_isSame 21 = .ok (.iadd, 1) := by decide +kernel
theorem dX5_isSame_22 : decode cX5_isSame 22 = .ok (.invokevirtual 26, 3) := by decide +kernel
theorem dX5_isSame_25 : decode cX5_isSame 25 = .ok (.if_icmp .eq 5, 3) := by decide +kernel
theorem dX5_isSame_28 : decode cX5_isSame 28 = .ok (.iconst 0, 1) := by decide +kernel
theorem dX5_isSame_29 : decode cX5_isSame 29 = .ok (.ireturn, 1) := by decide +kernel
theorem dX5_isSame_30 : decode cX5_isSame 30 = .ok (.iinc 4 1, 3) := by decide +kernel
theorem dX5_isSame_33 : decode cX5_isSame 33 = .ok (.goto (-30), 3) := by decide +kernel
theorem dX5_isSame_36 : decode cX5_isSame 36 = .ok (.iconst 1, 1) := by decide +kernel
theorem dX5_isSame_37 : decode cX5_isSame 37 = .ok (.ireturn, 1) := by decide +kernel
theorem dX6_init_0 : decode cX6_init 0 = .ok (.aload_n 0, 1) := by decide +kernel
theorem dX6_init_1 : decode cX6_init 1 = .ok (.invokespecial 3, 3) := by decide +kernel
theorem dX6_init_4 : decode cX6_init 4 = .ok (.aload_n 0, 1) := by decide +kernel
theorem dX6_init_5 : decode cX6_init 5 = .ok (.bipush 6, 2) := by decide +kernel
theorem dX6_init_7 : decode cX6_init 7 = .ok (.newarray .int, 2) := by decide +kernel
theorem dX6_init_9 : decode cX6_init 9 = .ok (.putfield 9, 3) := by decide +kernel
theorem dX6_init_12 : decode cX6_init 12 = .ok (.return_, 1) := by decide +kernel
theorem dX6_count_0 : decode cX6_count 0 = .ok (.aload_n 0, 1) := by decide +kernel
theorem dX6_count_1 : decode cX6_count 1 = .ok (.getfield 15, 3) := by decide +kernel
theorem dX6_count_4 : decode cX6_count 4 = .ok (.ireturn, 1) := by decide +kernel
theorem dX6_isFull_0 : decode cX6_isFull 0 = .ok (.aload_n 0, 1) := by decide +kernel
theorem dX6_isFull_1 : decode cX6_isFull 1 = .ok (.getfield 15, 3) := by decide +kernel
theorem dX6_isFull_4 : decode cX6_isFull 4 = .ok (.aload_n 0, 1) := by decide +kernel
theorem dX6_isFull_5 : decode cX6_isFull 5 = .ok (.getfield 9, 3) := by decide +kernel
theorem dX6_isFull_8 : decode cX6_isFull 8 = .ok (.arraylength, 1) := by decide +kernel
theorem dX6_isFull_9 : decode cX6_isFull 9 = .ok (.if_icmp .lt 7, 3) := by decide +kernel
theorem dX6_isFull_12 : decode cX6_isFull 12 = .ok (.iconst 1, 1) := by decide +kernel
theorem dX6_isFull_13 : decode cX6_isFull 13 = .ok (.goto 4, 3) := by decide +kernel
theorem dX6_isFull_16 : decode cX6_isFull 16 = .ok (.iconst 0, 1) := by decide +kernel
theorem dX6_isFull_17 : decode cX6_isFull 17 = .ok (.ireturn, 1) := by decide +kernel
theorem dX6_at_0 : decode cX6_at 0 = .ok (.iload_n 1, 1) := by decide +kernel
theorem dX6_at_1 : decode cX6_at 1 = .ok (.ifCond .lt 21, 3) := by decide +kernel
theorem dX6_at_4 : decode cX6_at 4 = .ok (.iload_n 1, 1) := by decide +kernel
theorem dX6_at_5 : decode cX6_at 5 = .ok (.aload_n 0, 1) := by decide +kernel
theorem dX6_at_6 : decode cX6_at 6 = .ok (.getfield 9, 3) := by decide +kernel
theorem dX6_at_9 : decode cX6_at 9 = .ok (.arraylength, 1) := by decide +kernel
theorem dX6_at_10 : decode cX6_at 10 = .ok (.if_icmp .ge 12, 3) := by decide +kernel
theorem dX6_at_13 : decode cX6_at 13 = .ok (.aload_n 0, 1) := by decide +kernel
theorem dX6_at_14 : decode cX6_at 14 = .ok (.getfield 9, 3) := by decide +kernel
theorem dX6_at_17 : decode cX6_at 17 = .ok (.iload_n 1, 1) := by decide +kernel
theorem dX6_at_18 : decode cX6_at 18 = .ok (.iaload, 1) := by decide +kernel
theorem dX6_at_19 : decode cX6_at 19 = .ok (.goto 4, 3) := by decide +kernel
theorem dX6_at_22 : decode cX6_at 22 = .ok (.iconst 0, 1) := by decide +kernel
theorem dX6_at_23 : decode cX6_at 23 = .ok (.ireturn, 1) := by decide +kernel
theorem dX6_put_0 : decode cX6_put 0 = .ok (.iload_n 1, 1) := by decide +kernel
theorem dX6_put_1 : decode cX6_put 1 = .ok (.ifCond .lt 19, 3) := by decide +kernel
theorem dX6_put_4 : decode cX6_put 4 = .ok (.iload_n 1, 1) := by decide +kernel
theorem dX6_put_5 : decode cX6_put 5 = .ok (.aload_n 0, 1) := by decide +kernel
theorem dX6_put_6 : decode cX6_put 6 = .ok (.getfield 9, 3) := by decide +kernel
theorem dX6_put_9 : decode cX6_put 9 = .ok (.arraylength, 1) := by decide +kernel
theorem dX6_put_10 : decode cX6_put 10 = .ok (.if_icmp .ge 10, 3) := by decide +kernel
theorem dX6_put_13 : decode cX6_put 13 = .ok (.aload_n 0, 1) := by decide +kernel
theorem dX6_put_14 : decode cX6_put 14 = .ok (.getfield 9, 3) := by decide +kernel
theorem dX6_put_17 : decode cX6_put 17 = .ok (.iload_n 1, 1) := by decide +kernel
theorem dX6_put_18 : decode cX6_put 18 = .ok (.iload_n 2, 1) := by decide +kernel
theorem dX6_put_19 : decode cX6_put 19 = .ok (.iastore, 1) := by decide +kernel
theorem dX6_put_20 : decode cX6_put 20 = .ok (.return_, 1) := by decide +kernel
theorem dX6_append_0 : decode cX6_append 0 = .ok (.aload_n 0, 1) := by decide +kernel
theorem dX6_append_1 : decode cX6_append 1 = .ok (.invokevirtual 19, 3) := by decide +kernel
theorem dX6_append_4 : decode cX6_append 4 = .ok (.ifCond .ne 22, 3) := by decide +kernel
theorem dX6_append_7 : decode cX6_append 7 = .ok (.aload_n 0, 1) := by decide +kernel
theorem dX6_append_8 : decode cX6_append 8 = .ok (.aload_n 0, 1) := by decide +kernel
theorem dX6_append_9 : decode cX6_append 9 = .ok (.getfield 15, 3) := by decide +kernel
theorem dX6_append_12 : decode cX6_append 12 = .ok (.iload_n 1, 1) := by decide +kernel
theorem dX6_append_13 : decode cX6_append 13 = .ok (.invokevirtual 23, 3) := by decide +kernel
theorem dX6_append_16 : decode cX6_append 16 = .ok (.aload_n 0, 1) := by decide +kernel
theorem dX6_append_17 : decode cX6_append 17 = .ok (.dup, 1) := by decide +kernel
theorem dX6_append_18 : decode cX6_append 18 = .ok (.getfield 15, 3) := by decide +kernel
theorem dX6_append_21 : decode cX6_append 21 = .ok (.iconst 1, 1) := by decide +kernel
theorem dX6_append_22 : decode cX6_append 22 = .ok (.iadd, 1) := by decide +kernel
theorem dX6_append_23 : decode cX6_append 23 = .ok (.putfield 15, 3) := by decide +kernel
theorem dX6_append_26 : decode cX6_append 26 = .ok (.return_, 1) := by decide +kernel
theorem dX6_indexAt_0 : decode cX6_indexAt 0 = .ok (.iconst 0, 1) := by decide +kernel
theorem dX6_indexAt_1 : decode cX6_indexAt 1 = .ok (.istore_n 2, 1) := by decide +kernel
theorem dX6_indexAt_2 : decode cX6_indexAt 2 = .ok (.iload_n 2, 1) := by decide +kernel
theorem dX6_indexAt_3 : decode cX6_indexAt 3 = .ok (.aload_n 0, 1) := by decide +kernel
theorem dX6_indexAt_4 : decode cX6_indexAt 4 = .ok (.getfield 15, 3) := by decide +kernel
theorem dX6_indexAt_7 : decode cX6_indexAt 7 = .ok (.if_icmp .ge 20, 3) := by decide +kernel
theorem dX6_indexAt_10 : decode cX6_indexAt 10 = .ok (.aload_n 0, 1) := by decide +kernel
theorem dX6_indexAt_11 : decode cX6_indexAt 11 = .ok (.iload_n 2, 1) := by decide +kernel
theorem dX6_indexAt_12 : decode cX6_indexAt 12 = .ok (.invokevirtual 27, 3) := by decide +kernel
theorem dX6_indexAt_15 : decode cX6_indexAt 15 = .ok (.iload_n 1, 1) := by decide +kernel
theorem dX6_indexAt_16 : decode cX6_indexAt 16 = .ok (.if_icmp .ne 5, 3) := by decide +kernel
theorem dX6_indexAt_19 : decode cX6_indexAt 19 = .ok (.iload_n 2, 1) := by decide +kernel
theorem dX6_indexAt_20 : decode cX6_indexAt 20 = .ok (.ireturn, 1) := by decide +kernel
theorem dX6_indexAt_21 : decode cX6_indexAt 21 = .ok (.iinc 2 1, 3) := by decide +kernel
theorem dX6_indexAt_24 : decode cX6_indexAt 24 = .ok (.goto (-22), 3) := by decide +kernel
theorem dX6_indexAt_27 : decode cX6_indexAt 27 = .ok (.iconst (-1), 1) := by decide +kernel
theorem dX6_indexAt_28 : decode cX6_indexAt 28 = .ok (.ireturn, 1) := by decide +kernel
theorem dX6_add_0 : decode cX6_add 0 = .ok (.aload_n 0, 1) := by decide +kernel
theorem dX6_add_1 : decode cX6_add 1 = .ok (.iload_n 1, 1) := by decide +kernel
theorem dX6_add_2 : decode cX6_add 2 = .ok (.invokevirtual 31, 3) := by decide +kernel
theorem dX6_add_5 : decode cX6_add 5 = .ok (.aload_n 0, 1) := by decide +kernel
theorem dX6_add_6 : decode cX6_add 6 = .ok (.getfield 15, 3) := by decide +kernel
theorem dX6_add_9 : decode cX6_add 9 = .ok (.iconst 1, 1) := by decide +kernel
theorem dX6_add_10 : decode cX6_add 10 = .ok (.isub, 1) := by decide +kernel
theorem dX6_add_11 : decode cX6_add 11 = .ok (.istore_n 2, 1) := by decide +kernel
theorem dX6_add_12 : decode cX6_add 12 = .ok (.iload_n 2, 1) := by decide +kernel
theorem dX6_add_13 : decode cX6_add 13 = .ok (.ifCond .le 40, 3) := by decide +kernel
theorem dX6_add_16 : decode cX6_add 16 = .ok (.aload_n 0, 1) := by decide +kernel
theorem dX6_add_17 : decode cX6_add 17 = .ok (.iload_n 2, 1) := by decide +kernel
theorem dX6_add_18 : decode cX6_add 18 = .ok (.iconst 1, 1) := by decide +kernel
theorem dX6_add_19 : decode cX6_add 19 = .ok (.isub, 1) := by decide +kernel
theorem dX6_add_20 : decode cX6_add 20 = .ok (.invokevirtual 27, 3) := by decide +kernel
theorem dX6_add_23 : decode cX6_add 23 = .ok (.iload_n 1, 1) := by decide +kernel
theorem dX6_add_24 : decode cX6_add 24 = .ok (.if_icmp .le 29, 3) := by decide +kernel
theorem dX6_add_27 : decode cX6_add 27 = .ok (.aload_n 0, 1) := by decide +kernel
theorem dX6_add_28 : decode cX6_add 28 = .ok (.iload_n 2, 1) := by decide +kernel
theorem dX6_add_29 : decode cX6_add 29 = .ok (.aload_n 0, 1) := by decide +kernel
theorem dX6_add_30 : decode cX6_add 30 = .ok (.iload_n 2, 1) := by decide +kernel
theorem dX6_add_31 : decode cX6_add 31 = .ok (.iconst 1, 1) := by decide +kernel
theorem dX6_add_32 : decode cX6_add 32 = .ok (.isub, 1) := by decide +kernel
theorem dX6_add_33 : decode cX6_add 33 = .ok (.invokevirtual 27, 3) := by decide +kernel
theorem dX6_add_36 : decode cX6_add 36 = .ok (.invokevirtual 23, 3) := by decide +kernel
theorem dX6_add_39 : decode cX6_add 39 = .ok (.aload_n 0, 1) := by decide +kernel
theorem dX6_add_40 : decode cX6_add 40 = .ok (.iload_n 2, 1) := by decide +kernel
theorem dX6_add_41 : decode cX6_add 41 = .ok (.iconst 1, 1) := by decide +kernel
theorem dX6_add_42 : decode cX6_add 42 = .ok (.isub, 1) := by decide +kernel
theorem dX6_add_43 : decode cX6_add 43 = .ok (.iload_n 1, 1) := by decide +kernel
theorem dX6_add_44 : decode cX6_add 44 = .ok (.invokevirtual 23, 3) := by decide +kernel
theorem dX6_add_47 : decode cX6_add 47 = .ok (.iinc 2 (-1), 3) := by decide +kernel
theorem dX6_add_50 : decode cX6_add 50 = .ok (.goto (-38), 3) := by decide +kernel
theorem dX6_add_53 : decode cX6_add 53 = .ok (.return_, 1) := by decide +kernel
theorem dX6_delete_0 : decode cX6_delete 0 = .ok (.iload_n 1, 1) := by decide +kernel
theorem dX6_delete_1 : decode cX6_delete 1 = .ok (.istore_n 2, 1) := by decide +kernel
theorem dX6_delete_2 : decode cX6_delete 2 = .ok (.iload_n 2, 1) := by decide +kernel
theorem dX6_delete_3 : decode cX6_delete 3 = .ok (.aload_n 0, 1) := by decide +kernel
theorem dX6_delete_4 : decode cX6_delete 4 = .ok (.getfield 15, 3) := by decide +kernel
theorem dX6_delete_7 : decode cX6_delete 7 = .ok (.iconst 1, 1) := by decide +kernel
theorem dX6_delete_8 : decode cX6_delete 8 = .ok (.isub, 1) := by decide +kernel
theorem dX6_delete_9 : decode cX6_delete 9 = .ok (.if_icmp .ge 21, 3) := by decide +kernel
theorem dX6_delete_12 : decode cX6_delete 12 = .ok (.aload_n 0, 1) := by decide +kernel
theorem dX6_delete_13 : decode cX6_delete 13 = .ok (.iload_n 2, 1) := by decide +kernel
theorem dX6_delete_14 : decode cX6_delete 14 = .ok (.aload_n 0, 1) := by decide +kernel
theorem dX6_delete_15 : decode cX6_delete 15 = .ok (.iload_n 2, 1) := by decide +kernel
theorem dX6_delete_16 : decode cX6_delete 16 = .ok (.iconst 1, 1) := by decide +kernel
theorem dX6_delete_17 : decode cX6_delete 17 = .ok (.iadd, 1) := by decide +kernel
theorem dX6_delete_18 : decode cX6_delete 18 = .ok (.invokevirtual 27, 3) := by decide +kernel
theorem dX6_delete_21 : decode cX6_delete 21 = .ok (.invokevirtual 23, 3) := by decide +kernel
theorem dX6_delete_24 : decode cX6_delete 24 = .ok (.iinc 2 1, 3) := by decide +kernel
theorem dX6_delete_27 : decode cX6_delete 27 = .ok (.goto (-25), 3) := by decide +kernel
theorem dX6_delete_30 : decode cX6_delete 30 = .ok (.aload_n 0, 1) := by decide +kernel
theorem dX6_delete_31 : decode cX6_delete 31 = .ok (.dup, 1) := by decide +kernel
theorem dX6_delete_32 : decode cX6_delete 32 = .ok (.getfield 15, 3) := by decide +kernel
theorem dX6_delete_35 : decode cX6_delete 35 = .ok (.iconst 1, 1) := by decide +kernel
theorem dX6_delete_36 : decode cX6_delete 36 = .ok (.isub, 1) := by decide +kernel
theorem dX6_delete_37 : decode cX6_delete 37 = .ok (.putfield 15, 3) := by decide +kernel
theorem dX6_delete_40 : decode cX6_delete 40 = .ok (.return_, 1) := by decide +kernel
theorem dX6_clear_0 : decode cX6_clear 0 = .ok (.aload_n 0, 1) := by decide +kernel
theorem dX6_clear_1 : decode cX6_clear 1 = .ok (.iconst 0, 1) := by decide +kernel
theorem dX6_clear_2 : decode cX6_clear 2 = .ok (.putfield 15, 3) := by decide +kernel
theorem dX6_clear_5 : decode cX6_clear 5 = .ok (.return_, 1) := by decide +kernel
theorem dX6_become_0 : decode cX6_become 0 = .ok (.aload_n 0, 1) := by decide +kernel
theorem dX6_become_1 : decode cX6_become 1 = .ok (.invokevirtual 35, 3) := by decide +kernel
theorem dX6_become_4 : decode cX6_become 4 = .ok (.iconst 0, 1) := by decide +kernel
theorem dX6_become_5 : decode cX6_become 5 = .ok (.istore_n 2, 1) := by decide +kernel
theorem dX6_become_6 : decode cX6_become 6 = .ok (.iload_n 2, 1) := by decide +kernel
theorem dX6_become_7 : decode cX6_become 7 = .ok (.aload_n 1, 1) := by decide +kernel
theorem dX6_become_8 : decode cX6_become 8 = .ok (.getfield 15, 3) := by decide +kernel
theorem dX6_become_11 : decode cX6_become 11 = .ok (.if_icmp .ge 18, 3) := by decide +kernel
theorem dX6_become_14 : decode cX6_become 14 = .ok (.aload_n 0, 1) := by decide +kernel
theorem dX6_become_15 : decode cX6_become 15 = .ok (.aload_n 1, 1) := by decide +kernel
theorem dX6_become_16 : decode cX6_become 16 = .ok (.iload_n 2, 1) := by decide +kernel
theorem dX6_become_17 : decode cX6_become 17 = .ok (.invokevirtual 27, 3) := by decide +kernel
theorem dX6_become_20 : decode cX6_become 20 = .ok (.invokevirtual 31, 3) := by decide +kernel
theorem dX6_become_23 : decode cX6_become 23 = .ok (.iinc 2 1, 3) := by decide +kernel
theorem dX6_become_26 : decode cX6_become 26 = .ok (.goto (-20), 3) := by decide +kernel
theorem dX6_become_29 : decode cX6_become 29 = .ok (.return_, 1) := by decide +kernel
theorem dX6_makeRoom_0 : decode cX6_makeRoom 0 = .ok (.iconst 0, 1) := by decide +kernel
theorem dX6_makeRoom_1 : decode cX6_makeRoom 1 = .ok (.istore_n 3, 1) := by decide +kernel
theorem dX6_makeRoom_2 : decode cX6_makeRoom 2 = .ok (.iload_n 3, 1) := by decide +kernel
theorem dX6_makeRoom_3 : decode cX6_makeRoom 3 = .ok (.aload_n 0, 1) := by decide +kernel
theorem dX6_makeRoom_4 : decode cX6_makeRoom 4 = .ok (.getfield 15, 3) := by decide +kernel
theorem dX6_makeRoom_7 : decode cX6_makeRoom 7 = .ok (.if_icmp .ge 30, 3) := by decide +kernel
theorem dX6_makeRoom_10 : decode cX6_makeRoom 10 = .ok (.aload_n 0, 1) := by decide +kernel
theorem dX6_makeRoom_11 : decode cX6_makeRoom 11 = .ok (.iload_n 3, 1) := by decide +kernel
theorem dX6_makeRoom_12 : decode cX6_makeRoom 12 = .ok (.invokevirtual 27, 3) := by decide +kernel
theorem dX6_makeRoom_15 : decode cX6_makeRoom 15 = .ok (.iload_n 1, 1) := by decide +kernel
theorem dX6_makeRoom_16 : decode cX6_makeRoom 16 = .ok (.if_icmp .le 15, 3) := by decide +kernel
theorem dX6_makeRoom_19 : decode cX6_makeRoom 19 = .ok (.aload_n 0, 1) := by decide +kernel
theorem dX6_makeRoom_20 : decode cX6_makeRoom 20 = .ok (.iload_n 3, 1) := by decide +kernel
theorem dX6_makeRoom_21 : decode cX6_makeRoom 21 = .ok (.aload_n 0, 1) := by decide +kernel
theorem dX6_makeRoom_22 : decode cX6_makeRoom 22 = .ok (.iload_n 3, 1) := by decide +kernel
theorem dX6_makeRoom_23 : decode cX6_makeRoom 23 = .ok (.invokevirtual 27, 3) := by decide +kernel
theorem dX6_makeRoom_26 : decode cX6_makeRoom 26 = .ok (.iload_n 2, 1) := by decide +kernel
theorem dX6_makeRoom_27 : decode cX6_makeRoom 27 = .ok (.iadd, 1) := by decide +kernel
theorem dX6_makeRoom_28 : decode cX6_makeRoom 28 = .ok (.invokevirtual 23, 3) := by decide +kernel
theorem dX6_makeRoom_31 : decode cX6_makeRoom 31 = .ok (.iinc 3 1, 3) := by decide +kernel
theorem dX6_makeRoom_34 : decode cX6_makeRoom 34 = .ok (.goto (-32), 3) := by decide +kernel
theorem dX6_makeRoom_37 : decode cX6_makeRoom 37 = .ok (.return_, 1) := by decide +kernel
theorem dX6_close_0 : decode cX6_close 0 = .ok (.aload_n 0, 1) := by decide +kernel
theorem dX6_close_1 : decode cX6_close 1 = .ok (.getfield 15, 3) := by decide +kernel
theorem dX6_close_4 : decode cX6_close 4 = .ok (.istore_n 3, 1) := by decide +kernel
theorem dX6_close_5 : decode cX6_close 5 = .ok (.aload_n 0, 1) := by decide +kernel
theorem dX6_close_6 : decode cX6_close 6 = .ok (.invokevirtual 35, 3) := by decide +kernel
theorem dX6_close_9 : decode cX6_close 9 = .ok (.iconst 0, 1) := by decide +kernel
theorem dX6_close_10 : decode cX6_close 10 = .ok (.istore 4, 2) := by decide +kernel
theorem dX6_close_12 : decode cX6_close 12 = .ok (.iload 4, 2) := by decide +kernel
theorem dX6_close_14 : decode cX6_close 14 = .ok (.iload_n 3, 1) := by decide +kernel
theorem dX6_close_15 : decode cX6_close 15 = .ok (.if_icmp .ge 76, 3) := by decide +kernel
theorem dX6_close_18 : decode cX6_close 18 = .ok (.aload_n 0, 1) := by decide +kernel
theorem dX6_close_19 : decode cX6_close 19 = .ok (.iload 4, 2) := by decide +kernel
theorem dX6_close_21 : decode cX6_close 21 = .ok (.invokevirtual 27, 3) := by decide +kernel
theorem dX6_close_24 : decode cX6_close 24 = .ok (.istore 5, 2) := by decide +kernel
theorem dX6_close_26 : decode cX6_close 26 = .ok (.iload 5, 2) := by decide +kernel
theorem dX6_close_28 : decode cX6_close 28 = .ok (.iload_n 2, 1) := by decide +kernel
theorem dX6_close_29 : decode cX6_close 29 = .ok (.if_icmp .ge 8, 3) := by decide +kernel
theorem dX6_close_32 : decode cX6_close 32 = .ok (.iload 5, 2) := by decide +kernel
theorem dX6_close_34 : decode cX6_close 34 = .ok (.goto 9, 3) := by decide +kernel
theorem dX6_close_37 : decode cX6_close 37 = .ok (.iload 5, 2) := by decide +kernel
theorem dX6_close_39 : decode cX6_close 39 = .ok (.iload_n 2, 1) := by decide +kernel
theorem dX6_close_40 : decode cX6_close 40 = .ok (.iload_n 1, 1) := by decide +kernel
theorem dX6_close_41 : decode cX6_close 41 = .ok (.isub, 1) := by decide +kernel
theorem dX6_close_42 : decode cX6_close 42 = .ok (.isub, 1) := by decide +kernel
theorem dX6_close_43 : decode cX6_close 43 = .ok (.istore 6, 2) := by decide +kernel
theorem dX6_close_45 : decode cX6_close 45 = .ok (.iload 5, 2) := by decide +kernel
theorem dX6_close_47 : decode cX6_close 47 = .ok (.iload_n 1, 1) := by decide +kernel
theorem dX6_close_48 : decode cX6_close 48 = .ok (.if_icmp .le 13, 3) := by decide +kernel
theorem dX6_close_51 : decode cX6_close 51 = .ok (.iload 5, 2) := by decide +kernel
theorem dX6_close_53 : decode cX6_close 53 = .ok (.iload_n 2, 1) := by decide +kernel
theorem dX6_close_54 : decode cX6_close 54 = .ok (.if_icmp .ge 7, 3) := by decide +kernel
theorem dX6_close_57 : decode cX6_close 57 = .ok (.iconst 1, 1) := by decide +kernel
theorem dX6_close_58 : decode cX6_close 58 = .ok (.goto 4, 3) := by decide +kernel
theorem dX6_close_61 : decode cX6_close 61 = .ok (.iconst 0, 1) := by decide +kernel
theorem dX6_close_62 : decode cX6_close 62 = .ok (.istore 7, 2) := by decide +kernel
theorem dX6_close_64 : decode cX6_close 64 = .ok (.iload 7, 2) := by decide +kernel
theorem dX6_close_66 : decode cX6_close 66 = .ok (.ifCond .ne 19, 3) := by decide +kernel
theorem dX6_close_69 : decode cX6_close 69 = .ok (.aload_n 0, 1) := by decide +kernel
theorem dX6_close_70 : decode cX6_close 70 = .ok (.iload 6, 2) := by decide +kernel
theorem dX6_close_72 : decode cX6_close 72 = .ok (.invokevirtual 38, 3) := by decide +kernel
theorem dX6_close_75 : decode cX6_close 75 = .ok (.iconst (-1), 1) := by decide +kernel
theorem dX6_close_76 : decode cX6_close 76 = .ok (.if_icmp .ne 9, 3) := by decide +kernel
theorem dX6_close_79 : decode cX6_close 79 = .ok (.aload_n 0, 1) := by decide +kernel
theorem dX6_close_80 : decode cX6_close 80 = .ok (.iload 6, 2) := by decide +kernel
theorem dX6_close_82 : decode cX6_close 82 = .ok (.invokevirtual 31, 3) := by decide +kernel
theorem dX6_close_85 : decode cX6_close 85 = .ok (.iinc 4 1, 3) := by decide +kernel
theorem dX6_close_88 : decode cX6_close 88 = .ok (.goto (-76), 3) := by decide +kernel
theorem dX6_close_91 : decode cX6_close 91 = .ok (.return_, 1) := by decide +kernel
theorem dX7_init_0 : decode cX7_init 0 = .ok (.aload_n 0, 1) := by decide +kernel
theorem dX7_init_1 : decode cX7_init 1 = .ok (.invokespecial 3, 3) := by decide +kernel
theorem dX7_init_4 : decode cX7_init 4 = .ok (.aload_n 0, 1) := by decide +kernel
theorem dX7_init_5 : decode cX7_init 5 = .ok (.sipush 1000, 3) := by decide +kernel
theorem dX7_init_8 : decode cX7_init 8 = .ok (.newarray .char, 2) := by decide +kernel
theorem dX7_init_10 : decode cX7_init 10 = .ok (.putfield 9, 3) := by decide +kernel
theorem dX7_init_13 : decode cX7_init 13 = .ok (.return_, 1) := by decide +kernel
theorem dX7_length_0 : decode cX7_length 0 = .ok (.aload_n 0, 1) := by decide +kernel
theorem dX7_length_1 : decode cX7_length 1 = .ok (.getfield 15, 3) := by decide +kernel
theorem dX7_length_4 : decode cX7_length 4 = .ok (.ireturn, 1) := by decide +kernel
theorem dX7_at_0 : decode cX7_at 0 = .ok (.iload_n 1, 1) := by decide +kernel
theorem dX7_at_1 : decode cX7_at 1 = .ok (.ifCond .lt 21, 3) := by decide +kernel
theorem dX7_at_4 : decode cX7_at 4 = .ok (.iload_n 1, 1) := by decide +kernel
theorem dX7_at_5 : decode cX7_at 5 = .ok (.aload_n 0, 1) := by decide +kernel
theorem dX7_at_6 : decode cX7_at 6 = .ok (.getfield 9, 3) := by decide +kernel
theorem dX7_at_9 : decode cX7_at 9 = .ok (.arraylength, 1) := by decide +kernel
theorem dX7_at_10 : decode cX7_at 10 = .ok (.if_icmp .ge 12, 3) := by decide +kernel
theorem dX7_at_13 : decode cX7_at 13 = .ok (.aload_n 0, 1) := by decide +kernel
theorem dX7_at_14 : decode cX7_at 14 = .ok (.getfield 9, 3) := by decide +kernel
theorem dX7_at_17 : decode cX7_at 17 = .ok (.iload_n 1, 1) := by decide +kernel
theorem dX7_at_18 : decode cX7_at 18 = .ok (.caload, 1) := by decide +kernel
theorem dX7_at_19 : decode cX7_at 19 = .ok (.goto 4, 3) := by decide +kernel
theorem dX7_at_22 : decode cX7_at 22 = .ok (.iconst 0, 1) := by decide +kernel
theorem dX7_at_23 : decode cX7_at 23 = .ok (.ireturn, 1) := by decide +kernel
theorem dX7_clear_0 : decode cX7_clear 0 = .ok (.aload_n 0, 1) := by decide +kernel
theorem dX7_clear_1 : decode cX7_clear 1 = .ok (.iconst 0, 1) := by decide +kernel
theorem dX7_clear_2 : decode cX7_clear 2 = .ok (.putfield 15, 3) := by decide +kernel
theorem dX7_clear_5 : decode cX7_clear 5 = .ok (.return_, 1) := by decide +kernel
theorem dX7_append_0 : decode cX7_append 0 = .ok (.aload_n 0, 1) := by decide +kernel
theorem dX7_append_1 : decode cX7_append 1 = .ok (.getfield 15, 3) := by decide +kernel
theorem dX7_append_4 : decode cX7_append 4 = .ok (.ifCond .lt 35, 3) := by decide +kernel
theorem dX7_append_7 : decode cX7_append 7 = .ok (.aload_n 0, 1) := by decide +kernel
theorem dX7_append_8 : decode cX7_append 8 = .ok (.getfield 15, 3) := by decide +kernel
theorem dX7_append_11 : decode cX7_append 11 = .ok (.aload_n 0, 1) := by decide +kernel
theorem dX7_append_12 : decode cX7_append 12 = .ok (.getfield 9, 3) := by decide +kernel
theorem dX7_append_15 : decode cX7_append 15 = .ok (.arraylength, 1) := by decide +kernel
theorem dX7_append_16 : decode cX7_append 16 = .ok (.if_icmp .ge 23, 3) := by decide +kernel
theorem dX7_append_19 : decode cX7_append 19 = .ok (.aload_n 0, 1) := by decide +kernel
theorem dX7_append_20 : decode cX7_append 20 = .ok (.getfield 9, 3) := by decide +kernel
theorem dX7_append_23 : decode cX7_append 23 = .ok (.aload_n 0, 1) := by decide +kernel
theorem dX7_append_24 : decode cX7_append 24 = .ok (.getfield 15, 3) := by decide +kernel
theorem dX7_append_27 : decode cX7_append 27 = .ok (.iload_n 1, 1) := by decide +kernel
theorem dX7_append_28 : decode cX7_append 28 = .ok (.castore, 1) := by decide +kernel
theorem dX7_append_29 : decode cX7_append 29 = .ok (.aload_n 0, 1) := by decide +kernel
theorem dX7_append_30 : decode cX7_append 30 = .ok (.dup, 1) := by decide +kernel
theorem dX7_append_31 : decode cX7_append 31 = .ok (.getfield 15, 3) := by decide +kernel
theorem dX7_append_34 : decode cX7_append 34 = .ok (.iconst 1, 1) := by decide +kernel
theorem dX7_append_35 : decode cX7_append 35 = .ok (.iadd, 1) := by decide +kernel
theorem dX7_append_36 : decode cX7_append 36 = .ok (.putfield 15, 3) := by decide +kernel
theorem dX7_append_39 : decode cX7_append 39 = .ok (.return_, 1) := by decide +kernel
theorem dX7_appendNumber_0 : decode cX7_appendNumber 0 = .ok (.iload_n 1, 1) := by decide +kernel
theorem dX7_appendNumber_1 : decode cX7_appendNumber 1 = .ok (.bipush 100, 2) := by decide +kernel
theorem dX7_appendNumber_3 : decode cX7_appendNumber 3 = .ok (.if_icmp .lt 15, 3) := by decide +kernel
theorem dX7_appendNumber_6 : decode cX7_appendNumber 6 = .ok (.aload_n 0, 1) := by decide +kernel
theorem dX7_appendNumber_7 : decode cX7_appendNumber 7 = .ok (.bipush 48, 2) := by decide +kernel
theorem dX7_appendNumber_9 : decode cX7_appendNumber 9 = .ok (.iload_n 1, 1) := by decide +kernel
theorem dX7_appendNumber_10 : decode cX7_appendNumber 10 = .ok (.bipush 100, 2) := by decide +kernel
theorem dX7_appendNumber_12 : decode cX7_appendNumber 12 = .ok (.idiv, 1) := by decide +kernel
theorem dX7_appendNumber_13 : decode cX7_appendNumber 13 = .ok (.iadd, 1) := by decide +kernel
theorem dX7_appendNumber_14 : decode cX7_appendNumber 14 = .ok (.i2c, 1) := by decide +kernel
theorem dX7_appendNumber_15 : decode cX7_appendNumber 15 = .ok (.invokevirtual 19, 3) := by decide +kernel
theorem dX7_appendNumber_18 : decode cX7_appendNumber 18 = .ok (.iload_n 1, 1) := by decide +kernel
theorem dX7_appendNumber_19 : decode cX7_appendNumber 19 = .ok (.bipush 10, 2) := by decide +kernel
theorem dX7_appendNumber_21 : decode cX7_appendNumber 21 = .ok (.if_icmp .lt 18, 3) := by decide +kernel
theorem dX7_appendNumber_24 : decode cX7_appendNumber 24 = .ok (.aload_n 0, 1) := by decide +kernel
theorem dX7_appendNumber_25 : decode cX7_appendNumber 25 = .ok (.bipush 48, 2) := by decide +kernel
theorem dX7_appendNumber_27 : decode cX7_appendNumber 27 = .ok (.iload_n 1, 1) := by decide +kernel
theorem dX7_appendNumber_28 : decode cX7_appendNumber 28 = .ok (.bipush 10, 2) := by decide +kernel
theorem dX7_appendNumber_30 : decode cX7_appendNumber 30 = .ok (.idiv, 1) := by decide +kernel
theorem dX7_appendNumber_31 : decode cX7_appendNumber 31 = .ok (.bipush 10, 2) := by decide +kernel
theorem dX7_appendNumber_33 : decode cX7_appendNumber 33 = .ok (.irem, 1) := by decide +kernel
theorem dX7_appendNumber_34 : decode cX7_appendNumber 34 = .ok (.iadd, 1) := by decide +kernel
theorem dX7_appendNumber_35 : decode cX7_appendNumber 35 = .ok (.i2c, 1) := by decide +kernel
theorem dX7_appendNumber_36 : decode cX7_appendNumber 36 = .ok (.invokevirtual 19, 3) := by decide +kernel
theorem dX7_appendNumber_39 : decode cX7_appendNumber 39 = .ok (.aload_n 0, 1) := by decide +kernel
theorem dX7_appendNumber_40 : decode cX7_appendNumber 40 = .ok (.bipush 48, 2) := by decide +kernel
theorem dX7_appendNumber_42 : decode cX7_appendNumber 42 = .ok (.iload_n 1, 1) := by decide +kernel
theorem dX7_appendNumber_43 : decode cX7_appendNumber 43 = .ok (.bipush 10, 2) := by decide +kernel
theorem dX7_appendNumber_45 : decode cX7_appendNumber 45 = .ok (.irem, 1) := by decide +kernel
theorem dX7_appendNumber_46 : decode cX7_appendNumber 46 = .ok (.iadd, 1) := by decide +kernel
theorem dX7_appendNumber_47 : decode cX7_appendNumber 47 = .ok (.i2c, 1) := by decide +kernel
theorem dX7_appendNumber_48 : decode cX7_appendNumber 48 = .ok (.invokevirtual 19, 3) := by decide +kernel
theorem dX7_appendNumber_51 : decode cX7_appendNumber 51 = .ok (.return_, 1) := by decide +kernel
theorem dX8_init_0 : decode cX8_init 0 = .ok (.aload_n 0, 1) := by decide +kernel
theorem dX8_init_1 : decode cX8_init 1 = .ok (.invokespecial 3, 3) := by decide +kernel
theorem dX8_init_4 : decode cX8_init 4 = .ok (.aload_n 0, 1) := by decide +kernel
theorem dX8_init_5 : decode cX8_init 5 = .ok (.sipush 200, 3) := by decide +kernel
theorem dX8_init_8 : decode cX8_init 8 = .ok (.newarray .int, 2) := by decide +kernel
theorem dX8_init_10 : decode cX8_init 10 = .ok (.putfield 9, 3) := by decide +kernel
theorem dX8_init_13 : decode cX8_init 13 = .ok (.aload_n 0, 1) := by decide +kernel
theorem dX8_init_14 : decode cX8_init 14 = .ok (.sipush 200, 3) := by decide +kernel
theorem dX8_init_17 : decode cX8_init 17 = .ok (.newarray .int, 2) := by decide +kernel
theorem dX8_init_19 : decode cX8_init 19 = .ok (.putfield 15, 3) := by decide +kernel
theorem dX8_init_22 : decode cX8_init 22 = .ok (.aload_n 0, 1) := by decide +kernel
theorem dX8_init_23 : decode cX8_init 23 = .ok (.sipush 200, 3) := by decide +kernel
theorem dX8_init_26 : decode cX8_init 26 = .ok (.newarray .int, 2) := by decide +kernel
theorem dX8_init_28 : decode cX8_init 28 = .ok (.putfield 18, 3) := by decide +kernel
theorem dX8_init_31 : decode cX8_init 31 = .ok (.return_, 1) := by decide +kernel
theorem dX8_readFrom_0 : decode cX8_readFrom 0 = .ok (.aload_n 0, 1) := by decide +kernel
theorem dX8_readFrom_1 : decode cX8_readFrom 1 = .ok (.iconst 0, 1) := by decide +kernel
theorem dX8_readFrom_2 : decode cX8_readFrom 2 = .ok (.putfield 21, 3) := by decide +kernel
theorem dX8_readFrom_5 : decode cX8_readFrom 5 = .ok (.iconst 0, 1) := by decide +kernel
theorem dX8_readFrom_6 : decode cX8_readFrom 6 = .ok (.istore_n 2, 1) := by decide +kernel
theorem dX8_readFrom_7 : decode cX8_readFrom 7 = .ok (.iload_n 2, 1) := by decide +kernel
theorem dX8_readFrom_8 : decode cX8_readFrom 8 = .ok (.aload_n 1, 1) := by decide +kernel
theorem dX8_readFrom_9 : decode cX8_readFrom 9 = .ok (.invokevirtual 25, 3) := by decide +kernel
theorem dX8_readFrom_12 : decode cX8_readFrom 12 = .ok (.if_icmp .ge 51, 3) := by decide +kernel
theorem dX8_readFrom_15 : decode cX8_readFrom 15 = .ok (.iload_n 2, 1) := by decide +kernel
theorem dX8_readFrom_16 : decode cX8_readFrom 16 = .ok (.ifCond .eq 18, 3) := by decide +kernel
theorem dX8_readFrom_19 : decode cX8_readFrom 19 = .ok (.aload_n 1, 1) := by decide +kernel
theorem dX8_readFrom_20 : decode cX8_readFrom 20 = .ok (.iload_n 2, 1) := by decide +kernel
theorem dX8_readFrom_21 : decode cX8_readFrom 21 = .ok (.invokevirtual 31, 3) := by decide +kernel
theorem dX8_readFrom_24 : decode cX8_readFrom 24 = .ok (.aload_n 1, 1) := by decide +kernel
theorem dX8_readFrom_25 : decode cX8_readFrom 25 = .ok (.iload_n 2, 1) := by decide +kernel
theorem dX8_readFrom_26 : decode cX8_readFrom 26 = .ok (.iconst 1, 1) := by decide +kernel
theorem dX8_readFrom_27 : decode cX8_readFrom 27 = .ok (.isub, 1) := by decide +kernel
theorem dX8_readFrom_28 : decode cX8_readFrom 28 = .ok (.invokevirtual 31, 3) := by decide +kernel
theorem dX8_readFrom_31 : decode cX8_readFrom 31 = .ok (.if_icmp .eq 16, 3) := by decide +kernel
theorem dX8_readFrom_34 : decode cX8_readFrom 34 = .ok (.aload_n 0, 1) := by decide +kernel
theorem dX8_readFrom_35 : decode cX8_readFrom 35 = .ok (.iload_n 2, 1) := by decide +kernel
theorem dX8_readFrom_36 : decode cX8_readFrom 36 = .ok (.aload_n 1, 1) := by decide +kernel
theorem dX8_readFrom_37 : decode cX8_readFrom 37 = .ok (.iload_n 2, 1) := by decide +kernel
theorem dX8_readFrom_38 : decode cX8_readFrom 38 = .ok (.invokevirtual 31, 3) := by decide +kernel
theorem dX8_readFrom_41 : decode cX8_readFrom 41 = .ok (.invokevirtual 35, 3) := by decide +kernel
theorem dX8_readFrom_44 : decode cX8_readFrom 44 = .ok (.goto 13, 3) := by decide +kernel
theorem dX8_readFrom_47 : decode cX8_readFrom 47 = .ok (.aload_n 0, 1) := by decide +kernel
theorem dX8_readFrom_48 : decode cX8_readFrom 48 = .ok (.aload_n 0, 1) := by decide +kernel
theorem dX8_readFrom_49 : decode cX8_readFrom 49 = .ok (.getfield 21, 3) := by decide +kernel
theorem dX8_readFrom_52 : decode cX8_readFrom 52 = .ok (.iconst 1, 1) := by decide +kernel
theorem dX8_readFrom_53 : decode cX8_readFrom 53 = .ok (.isub, 1) := by decide +kernel
theorem dX8_readFrom_54 : decode cX8_readFrom 54 = .ok (.invokevirtual 39, 3) := by decide +kernel
theorem dX8_readFrom_57 : decode cX8_readFrom 57 = .ok (.iinc 2 1, 3) := by decide +kernel
theorem dX8_readFrom_60 : decode cX8_readFrom 60 = .ok (.goto (-53), 3) := by decide +kernel
theorem dX8_readFrom_63 : decode cX8_readFrom 63 = .ok (.return_, 1) := by decide +kernel
theorem dX8_begin_0 : decode cX8_begin 0 = .ok (.aload_n 0, 1) := by decide +kernel
theorem dX8_begin_1 : decode cX8_begin 1 = .ok (.getfield 21, 3) := by decide +kernel
theorem dX8_begin_4 : decode cX8_begin 4 = .ok (.ifCond .lt 79, 3) := by decide +kernel
theorem dX8_begin_7 : decode cX8_begin 7 = .ok (.aload_n 0, 1) := by decide +kernel
theorem dX8_begin_8 : decode cX8_begin 8 = .ok (.getfield 21, 3) := by decide +kernel
theorem dX8_begin_11 : decode cX8_begin 11 = .ok (.aload_n 0, 1) := by decide +kernel
theorem dX8_begin_12 : decode cX8_begin 12 = .ok (.getfield 9, 3) := by decide +kernel
theorem dX8_begin_15 : decode cX8_begin 15 = .ok (.arraylength, 1) := by decide +kernel
theorem dX8_begin_16 : decode cX8_begin 16 = .ok (.if_icmp .ge 67, 3) := by decide +kernel
theorem dX8_begin_19 : decode cX8_begin 19 = .ok (.aload_n 0, 1) := by decide +kernel
theorem dX8_begin_20 : decode cX8_begin 20 = .ok (.getfield 21, 3) := by decide +kernel
theorem dX8_begin_23 : decode cX8_begin 23 = .ok (.aload_n 0, 1) := by decide +kernel
theorem dX8_begin_24 : decode cX8_begin 24 = .ok (.getfield 15, 3) := by decide +kernel
theorem dX8_begin_27 : decode cX8_begin 27 = .ok (.arraylength, 1) := by decide +kernel
theorem dX8_begin_28 : decode cX8_begin 28 = .ok (.if_icmp .ge 55, 3) := by decide +kernel
theorem dX8_begin_31 : decode cX8_begin 31 = .ok (.aload_n 0, 1) := by decide +kernel
theorem dX8_begin_32 : decode cX8_begin 32 = .ok (.getfield 21, 3) := by decide +kernel
theorem dX8_begin_35 : decode cX8_begin 35 = .ok (.aload_n 0, 1) := by decide +kernel
theorem dX8_begin_36 : decode cX8_begin 36 = .ok (.getfield 18, 3) := by decide +kernel
theorem dX8_begin_39 : decode cX8_begin 39 = .ok (.arraylength, 1) := by decide +kernel
theorem dX8_begin_40 : decode cX8_begin 40 = .ok (.if_icmp .ge 43, 3) := by decide +kernel
theorem dX8_begin_43 : decode cX8_begin 43 = .ok (.aload_n 0, 1) := by decide +kernel
theorem dX8_begin_44 : decode cX8_begin 44 = .ok (.getfield 9, 3) := by decide +kernel
theorem dX8_begin_47 : decode cX8_begin 47 = .ok (.aload_n 0, 1) := by decide +kernel
theorem dX8_begin_48 : decode cX8_begin 48 = .ok (.getfield 21, 3) := by decide +kernel
theorem dX8_begin_51 : decode cX8_begin 51 = .ok (.iload_n 1, 1) := by decide +kernel
theorem dX8_begin_52 : decode cX8_begin 52 = .ok (.iastore, 1) := by decide +kernel
theorem dX8_begin_53 : decode cX8_begin 53 = .ok (.aload_n 0, 1) := by decide +kernel
theorem dX8_begin_54 : decode cX8_begin 54 = .ok (.getfield 15, 3) := by decide +kernel
theorem dX8_begin_57 : decode cX8_begin 57 = .ok (.aload_n 0, 1) := by decide +kernel
theorem dX8_begin_58 : decode cX8_begin 58 = .ok (.getfield 21, 3) := by decide +kernel
theorem dX8_begin_61 : decode cX8_begin 61 = .ok (.iconst 1, 1) := by decide +kernel
theorem dX8_begin_62 : decode cX8_begin 62 = .ok (.iastore, 1) := by decide +kernel
theorem dX8_begin_63 : decode cX8_begin 63 = .ok (.aload_n 0, 1) := by decide +kernel
theorem dX8_begin_64 : decode cX8_begin 64 = .ok (.getfield 18, 3) := by decide +kernel
theorem dX8_begin_67 : decode cX8_begin 67 = .ok (.aload_n 0, 1) := by decide +kernel
theorem dX8_begin_68 : decode cX8_begin 68 = .ok (.getfield 21, 3) := by decide +kernel
theorem dX8_begin_71 : decode cX8_begin 71 = .ok (.iload_n 2, 1) := by decide +kernel
theorem dX8_begin_72 : decode cX8_begin 72 = .ok (.iastore, 1) := by decide +kernel
theorem dX8_begin_73 : decode cX8_begin 73 = .ok (.aload_n 0, 1) := by decide +kernel
theorem dX8_begin_74 : decode cX8_begin 74 = .ok (.dup, 1) := by decide +kernel
theorem dX8_begin_75 : decode cX8_begin 75 = .ok (.getfield 21, 3) := by decide +kernel
theorem dX8_begin_78 : decode cX8_begin 78 = .ok (.iconst 1, 1) := by decide +kernel
theorem dX8_begin_79 : decode cX8_begin 79 = .ok (.iadd, 1) := by decide +kernel
theorem dX8_begin_80 : decode cX8_begin 80 = .ok (.putfield 21, 3) := by decide +kernel
theorem dX8_begin_83 : decode cX8_begin 83 = .ok (.return_, 1) := by decide +kernel
theorem dX8_lengthen_0 : decode cX8_lengthen 0 = .ok (.iload_n 1, 1) := by decide +kernel
theorem dX8_lengthen_1 : decode cX8_lengthen 1 = .ok (.ifCond .lt 22, 3) := by decide +kernel
theorem dX8_lengthen_4 : decode cX8_lengthen 4 = .ok (.iload_n 1, 1) := by decide +kernel
theorem dX8_lengthen_5 : decode cX8_lengthen 5 = .ok (.aload_n 0, 1) := by decide +kernel
theorem dX8_lengthen_6 : decode cX8_lengthen 6 = .ok (.getfield 15, 3) := by decide +kernel
theorem dX8_lengthen_9 : decode cX8_lengthen 9 = .ok (.arraylength, 1) := by decide +kernel
theorem dX8_lengthen_10 : decode cX8_lengthen 10 = .ok (.if_icmp .ge 13, 3) := by decide +kernel
theorem dX8_lengthen_13 : decode cX8_lengthen 13 = .ok (.aload_n 0, 1) := by decide +kernel
theorem dX8_lengthen_14 : decode cX8_lengthen 14 = .ok (.getfield 15, 3) := by decide +kernel
theorem dX8_lengthen_17 : decode cX8_lengthen 17 = .ok (.iload_n 1, 1) := by decide +kernel
theorem dX8_lengthen_18 : decode cX8_lengthen 18 = .ok (.dup2, 1) := by decide +kernel
theorem dX8_lengthen_19 : decode cX8_lengthen 19 = .ok (.iaload, 1) := by decide +kernel
theorem dX8_lengthen_20 : decode cX8_lengthen 20 = .ok (.iconst 1, 1) := by decide +kernel
theorem dX8_lengthen_21 : decode cX8_lengthen 21 = .ok (.iadd, 1) := by decide +kernel
theorem dX8_lengthen_22 : decode cX8_lengthen 22 = .ok (.iastore, 1) := by decide +kernel
theorem dX8_lengthen_23 : decode cX8_lengthen 23 = .ok (.return_, 1) := by decide +kernel
theorem dX8_count_0 : decode cX8_count 0 = .ok (.aload_n 0, 1) := by decide +kernel
theorem dX8_count_1 : decode cX8_count 1 = .ok (.getfield 21, 3) := by decide +kernel
theorem dX8_count_4 : decode cX8_count 4 = .ok (.ireturn, 1) := by decide +kernel
theorem dX8_has_0 : decode cX8_has 0 = .ok (.iload_n 1, 1) := by decide +kernel
theorem dX8_has_1 : decode cX8_has 1 = .ok (.ifCond .lt 15, 3) := by decide +kernel
theorem dX8_has_4 : decode cX8_has 4 = .ok (.iload_n 1, 1) := by decide +kernel
theorem dX8_has_5 : decode cX8_has 5 = .ok (.aload_n 0, 1) := by decide +kernel
theorem dX8_has_6 : decode cX8_has 6 = .ok (.getfield 21, 3) := by decide +kernel
theorem dX8_has_9 : decode cX8_has 9 = .ok (.if_icmp .ge 7, 3) := by decide +kernel
theorem dX8_has_12 : decode cX8_has 12 = .ok (.iconst 1, 1) := by decide +kernel
theorem dX8_has_13 : decode cX8_has 13 = .ok (.goto 4, 3) := by decide +kernel
theorem dX8_has_16 : decode cX8_has 16 = .ok (.iconst 0, 1) := by decide +kernel
theorem dX8_has_17 : decode cX8_has 17 = .ok (.ireturn, 1) := by decide +kernel
theorem dX8_startOf_0 : decode cX8_startOf 0 = .ok (.iload_n 1, 1) := by decide +kernel
theorem dX8_startOf_1 : decode cX8_startOf 1 = .ok (.ifCond .lt 21, 3) := by decide +kernel
theorem dX8_startOf_4 : decode cX8_startOf 4 = .ok (.iload_n 1, 1) := by decide +kernel
theorem dX8_startOf_5 : decode cX8_startOf 5 = .ok (.aload_n 0, 1) := by decide +kernel
theorem dX8_startOf_6 : decode cX8_startOf 6 = .ok (.getfield 9, 3) := by decide +kernel
theorem dX8_startOf_9 : decode cX8_startOf 9 = .ok (.arraylength, 1) := by decide +kernel
theorem dX8_startOf_10 : decode cX8_startOf 10 = .ok (.if_icmp .ge 12, 3) := by decide +kernel
theorem dX8_startOf_13 : decode cX8_startOf 13 = .ok (.aload_n 0, 1) := by decide +kernel
theorem dX8_startOf_14 : decode cX8_startOf 14 = .ok (.getfield 9, 3) := by decide +kernel
theorem dX8_startOf_17 : decode cX8_startOf 17 = .ok (.iload_n 1, 1) := by decide +kernel
theorem dX8_startOf_18 : decode cX8_startOf 18 = .ok (.iaload, 1) := by decide +kernel
theorem dX8_startOf_19 : decode cX8_startOf 19 = .ok (.goto 4, 3) := by decide +kernel
theorem dX8_startOf_22 : decode cX8_startOf 22 = .ok (.iconst 0, 1) := by decide +kernel
theorem dX8_startOf_23 : decode cX8_startOf 23 = .ok (.ireturn, 1) := by decide +kernel
theorem dX8_lengthOf_0 : decode cX8_lengthOf 0 = .ok (.iload_n 1, 1) := by decide +kernel
theorem dX8_lengthOf_1 : decode cX8_lengthOf 1 = .ok (.ifCond .lt 21, 3) := by decide +kernel
theorem dX8_lengthOf_4 : decode cX8_lengthOf 4 = .ok (.iload_n 1, 1) := by decide +kernel
theorem dX8_lengthOf_5 : decode cX8_lengthOf 5 = .ok (.aload_n 0, 1) := by decide +kernel
theorem dX8_lengthOf_6 : decode cX8_lengthOf 6 = .ok (.getfield 15, 3) := by decide +kernel
theorem dX8_lengthOf_9 : decode cX8_lengthOf 9 = .ok (.arraylength, 1) := by decide +kernel
theorem dX8_lengthOf_10 : decode cX8_lengthOf 10 = .ok (.if_icmp .ge 12, 3) := by decide +kernel
theorem dX8_lengthOf_13 : decode cX8_lengthOf 13 = .ok (.aload_n 0, 1) := by decide +kernel
theorem dX8_lengthOf_14 : decode cX8_lengthOf 14 = .ok (.getfield 15, 3) := by decide +kernel
theorem dX8_lengthOf_17 : decode cX8_lengthOf 17 = .ok (.iload_n 1, 1) := by decide +kernel
theorem dX8_lengthOf_18 : decode cX8_lengthOf 18 = .ok (.iaload, 1) := by decide +kernel
theorem dX8_lengthOf_19 : decode cX8_lengthOf 19 = .ok (.goto 4, 3) := by decide +kernel
theorem dX8_lengthOf_22 : decode cX8_lengthOf 22 = .ok (.iconst 0, 1) := by decide +kernel
theorem dX8_lengthOf_23 : decode cX8_lengthOf 23 = .ok (.ireturn, 1) := by decide +kernel
theorem dX8_levelOf_0 : decode cX8_levelOf 0 = .ok (.iload_n 1, 1) := by decide +kernel
theorem dX8_levelOf_1 : decode cX8_levelOf 1 = .ok (.ifCond .lt 21, 3) := by decide +kernel
theorem dX8_levelOf_4 : decode cX8_levelOf 4 = .ok (.iload_n 1, 1) := by decide +kernel
theorem dX8_levelOf_5 : decode cX8_levelOf 5 = .ok (.aload_n 0, 1) := by decide +kernel
theorem dX8_levelOf_6 : decode cX8_levelOf 6 = .ok (.getfield 18, 3) := by decide +kernel
theorem dX8_levelOf_9 : decode cX8_levelOf 9 = .ok (.arraylength, 1) := by decide +kernel
theorem dX8_levelOf_10 : decode cX8_levelOf 10 = .ok (.if_icmp .ge 12, 3) := by decide +kernel
theorem dX8_levelOf_13 : decode cX8_levelOf 13 = .ok (.aload_n 0, 1) := by decide +kernel
theorem dX8_levelOf_14 : decode cX8_levelOf 14 = .ok (.getfield 18, 3) := by decide +kernel
theorem dX8_levelOf_17 : decode cX8_levelOf 17 = .ok (.iload_n 1, 1) := by decide +kernel
theorem dX8_levelOf_18 : decode cX8_levelOf 18 = .ok (.iaload, 1) := by decide +kernel
theorem dX8_levelOf_19 : decode cX8_levelOf 19 = .ok (.goto 4, 3) := by decide +kernel
theorem dX8_levelOf_22 : decode cX8_levelOf 22 = .ok (.iconst 0, 1) := by decide +kernel
theorem dX8_levelOf_23 : decode cX8_levelOf 23 = .ok (.ireturn, 1) := by decide +kernel
theorem dX8_isRest_0 : decode cX8_isRest 0 = .ok (.aload_n 0, 1) := by decide +kernel
theorem dX8_isRest_1 : decode cX8_isRest 1 = .ok (.iload_n 1, 1) := by decide +kernel
theorem dX8_isRest_2 : decode cX8_isRest 2 = .ok (.invokevirtual 43, 3) := by decide +kernel
theorem dX8_isRest_5 : decode cX8_isRest 5 = .ok (.ifCond .ne 7, 3) := by decide +kernel
theorem dX8_isRest_8 : decode cX8_isRest 8 = .ok (.iconst 1, 1) := by decide +kernel
theorem dX8_isRest_9 : decode cX8_isRest 9 = .ok (.goto 4, 3) := by decide +kernel
theorem dX8_isRest_12 : decode cX8_isRest 12 = .ok (.iconst 0, 1) := by decide +kernel
theorem dX8_isRest_13 : decode cX8_isRest 13 = .ok (.ireturn, 1) := by decide +kernel
theorem dX8_ticksOfRests_0 : decode cX8_ticksOfRests 0 = .ok (.iconst 0, 1) := by decide +kernel
theorem dX8_ticksOfRests_1 : decode cX8_ticksOfRests 1 = .ok (.istore_n 1, 1) := by decide +kernel
theorem dX8_ticksOfRests_2 : decode cX8_ticksOfRests 2 = .ok (.iconst 0, 1) := by decide +kernel
theorem dX8_ticksOfRests_3 : decode cX8_ticksOfRests 3 = .ok (.istore_n 2, 1) := by decide +kernel
theorem dX8_ticksOfRests_4 : decode cX8_ticksOfRests 4 = .ok (.iload_n 2, 1) := by decide +kernel
theorem dX8_ticksOfRests_5 : decode cX8_ticksOfRests 5 = .ok (.aload_n 0, 1) := by decide +kernel
theorem dX8_ticksOfRests_6 : decode cX8_ticksOfRests 6 = .ok (.getfield 21, 3) := by decide +kernel
theorem dX8_ticksOfRests_9 : decode cX8_ticksOfRests 9 = .ok (.if_icmp .ge 29, 3) := by decide +kernel
theorem dX8_ticksOfRests_12 : decode cX8_ticksOfRests 12 = .ok (.iload_n 1, 1) := by decide +kernel
theorem dX8_ticksOfRests_13 : decode cX8_ticksOfRests 13 = .ok (.aload_n 0, 1) := by decide +kernel
theorem dX8_ticksOfRests_14 : decode cX8_ticksOfRests 14 = .ok (.iload_n 2, 1) := by decide +kernel
theorem dX8_ticksOfRests_15 : decode cX8_ticksOfRests 15 = .ok (.invokevirtual 46, 3) := by decide +kernel
theorem dX8_ticksOfRests_18 : decode cX8_ticksOfRests 18 = .ok (.ifCond .eq 11, 3) := by decide +kernel
theorem dX8_ticksOfRests_21 : decode cX8_ticksOfRests 21 = .ok (.aload_n 0, 1) := by decide +kernel
theorem dX8_ticksOfRests_22 : decode cX8_ticksOfRests 22 = .ok (.iload_n 2, 1) := by decide +kernel
theorem dX8_ticksOfRests_23 : decode cX8_ticksOfRests 23 = .ok (.invokevirtual 50, 3) := by decide +kernel
theorem dX8_ticksOfRests_26 : decode cX8_ticksOfRests 26 = .ok (.goto 4, 3) := by decide +kernel
theorem dX8_ticksOfRests_29 : decode cX8_ticksOfRests 29 = .ok (.iconst 0, 1) := by decide +kernel
theorem dX8_ticksOfRests_30 : decode cX8_ticksOfRests 30 = .ok (.iadd, 1) := by decide +kernel
theorem dX8_ticksOfRests_31 : decode cX8_ticksOfRests 31 = .ok (.istore_n 1, 1) := by decide +kernel
theorem dX8_ticksOfRests_32 : decode cX8_ticksOfRests 32 = .ok (.iinc 2 1, 3) := by decide +kernel
theorem dX8_ticksOfRests_35 : decode cX8_ticksOfRests 35 = .ok (.goto (-31), 3) := by decide +kernel
theorem dX8_ticksOfRests_38 : decode cX8_ticksOfRests 38 = .ok (.iload_n 1, 1) := by decide +kernel
theorem dX8_ticksOfRests_39 : decode cX8_ticksOfRests 39 = .ok (.ireturn, 1) := by decide +kernel
theorem dX8_ticksOfHums_0 : decode cX8_ticksOfHums 0 = .ok (.iconst 0, 1) := by decide +kernel
theorem dX8_ticksOfHums_1 : decode cX8_ticksOfHums 1 = .ok (.istore_n 1, 1) := by decide +kernel
theorem dX8_ticksOfHums_2 : decode cX8_ticksOfHums 2 = .ok (.iconst 0, 1) := by decide +kernel
theorem dX8_ticksOfHums_3 : decode cX8_ticksOfHums 3 = .ok (.istore_n 2, 1) := by decide +kernel
theorem dX8_ticksOfHums_4 : decode cX8_ticksOfHums 4 = .ok (.iload_n 2, 1) := by decide +kernel
theorem dX8_ticksOfHums_5 : decode cX8_ticksOfHums 5 = .ok (.aload_n 0, 1) := by decide +kernel
theorem dX8_ticksOfHums_6 : decode cX8_ticksOfHums 6 = .ok (.getfield 21, 3) := by decide +kernel
theorem dX8_ticksOfHums_9 : decode cX8_ticksOfHums 9 = .ok (.if_icmp .ge 29, 3) := by decide +kernel
theorem dX8_ticksOfHums_12 : decode cX8_ticksOfHums 12 = .ok (.iload_n 1, 1) := by decide +kernel
theorem dX8_ticksOfHums_13 : decode cX8_ticksOfHums 13 = .ok (.aload_n 0, 1) := by decide +kernel
theorem dX8_ticksOfHums_14 : decode cX8_ticksOfHums 14 = .ok (.iload_n 2, 1) := by decide +kernel
theorem dX8_ticksOfHums_15 : decode cX8_ticksOfHums 15 = .ok (.invokevirtual 46, 3) := by decide +kernel
theorem dX8_ticksOfHums_18 : decode cX8_ticksOfHums 18 = .ok (.ifCond .eq 7, 3) := by decide +kernel
theorem dX8_ticksOfHums_21 : decode cX8_ticksOfHums 21 = .ok (.iconst 0, 1) := by decide +kernel
theorem dX8_ticksOfHums_22 : decode cX8_ticksOfHums 22 = .ok (.goto 8, 3) := by decide +kernel
theorem dX8_ticksOfHums_25 : decode cX8_ticksOfHums 25 = .ok (.aload_n 0, 1) := by decide +kernel
theorem dX8_ticksOfHums_26 : decode cX8_ticksOfHums 26 = .ok (.iload_n 2, 1) := by decide +kernel
theorem dX8_ticksOfHums_27 : decode cX8_ticksOfHums 27 = .ok (.invokevirtual 50, 3) := by decide +kernel
theorem dX8_ticksOfHums_30 : decode cX8_ticksOfHums 30 = .ok (.iadd, 1) := by decide +kernel
theorem dX8_ticksOfHums_31 : decode cX8_ticksOfHums 31 = .ok (.istore_n 1, 1) := by decide +kernel
theorem dX8_ticksOfHums_32 : decode cX8_ticksOfHums 32 = .ok (.iinc 2 1, 3) := by decide +kernel
theorem dX8_ticksOfHums_35 : decode cX8_ticksOfHums 35 = .ok (.goto (-31), 3) := by decide +kernel
theorem dX8_ticksOfHums_38 : decode cX8_ticksOfHums 38 = .ok (.iload_n 1, 1) := by decide +kernel
theorem dX8_ticksOfHums_39 : decode cX8_ticksOfHums 39 = .ok (.ireturn, 1) := by decide +kernel
theorem dX8_countOfRests_0 : decode cX8_countOfRests 0 = .ok (.iconst 0, 1) := by decide +kernel
theorem dX8_countOfRests_1 : decode cX8_countOfRests 1 = .ok (.istore_n 1, 1) := by decide +kernel
theorem dX8_countOfRests_2 : decode cX8_countOfRests 2 = .ok (.iconst 0, 1) := by decide +kernel
theorem dX8_countOfRests_3 : decode cX8_countOfRests 3 = .ok (.istore_n 2, 1) := by decide +kernel
theorem dX8_countOfRests_4 : decode cX8_countOfRests 4 = .ok (.iload_n 2, 1) := by decide +kernel
theorem dX8_countOfRests_5 : decode cX8_countOfRests 5 = .ok (.aload_n 0, 1) := by decide +kernel
theorem dX8_countOfRests_6 : decode cX8_countOfRests 6 = .ok (.getfield 21, 3) := by decide +kernel
theorem dX8_countOfRests_9 : decode cX8_countOfRests 9 = .ok (.if_icmp .ge 25, 3) := by decide +kernel
theorem dX8_countOfRests_12 : decode cX8_countOfRests 12 = .ok (.iload_n 1, 1) := by decide +kernel
theorem dX8_countOfRests_13 : decode cX8_countOfRests 13 = .ok (.aload_n 0, 1) := by decide +kernel
theorem dX8_countOfRests_14 : decode cX8_countOfRests 14 = .ok (.iload_n 2, 1) := by decide +kernel
theorem dX8_countOfRests_15 : decode cX8_countOfRests 15 = .ok (.invokevirtual 46, 3) := by decide +kernel
theorem dX8_countOfRests_18 : decode cX8_countOfRests 18 = .ok (.ifCond .eq 7, 3) := by decide +kernel
theorem dX8_countOfRests_21 : decode cX8_countOfRests 21 = .ok (.iconst 1, 1) := by decide +kernel
theorem dX8_countOfRests_22 : decode cX8_countOfRests 22 = .ok (.goto 4, 3) := by decide +kernel
theorem dX8_countOfRests_25 : decode cX8_countOfRests 25 = .ok (.iconst 0, 1) := by decide +kernel
theorem dX8_countOfRests_26 : decode cX8_countOfRests 26 = .ok (.iadd, 1) := by decide +kernel
theorem dX8_countOfRests_27 : decode cX8_countOfRests 27 = .ok (.istore_n 1, 1) := by decide +kernel
theorem dX8_countOfRests_28 : decode cX8_countOfRests 28 = .ok (.iinc 2 1, 3) := by decide +kernel
theorem dX8_countOfRests_31 : decode cX8_countOfRests 31 = .ok (.goto (-27), 3) := by decide +kernel
theorem dX8_countOfRests_34 : decode cX8_countOfRests 34 = .ok (.iload_n 1, 1) := by decide +kernel
theorem dX8_countOfRests_35 : decode cX8_countOfRests 35 = .ok (.ireturn, 1) := by decide +kernel
theorem dX8_sumOfLevels_0 : decode cX8_sumOfLevels 0 = .ok (.lconst 0, 1) := by decide +kernel
theorem dX8_sumOfLevels_1 : decode cX8_sumOfLevels 1 = .ok (.lstore_n 1, 1) := by decide +kernel
theorem dX8_sumOfLevels_2 : decode cX8_sumOfLevels 2 = .ok (.iconst 0, 1) := by decide +kernel
theorem dX8_sumOfLevels_3 : decode cX8_sumOfLevels 3 = .ok (.istore_n 3, 1) := by decide +kernel
theorem dX8_sumOfLevels_4 : decode cX8_sumOfLevels 4 = .ok (.iload_n 3, 1) := by decide +kernel
theorem dX8_sumOfLevels_5 : decode cX8_sumOfLevels 5 = .ok (.aload_n 0, 1) := by decide +kernel
theorem dX8_sumOfLevels_6 : decode cX8_sumOfLevels 6 = .ok (.getfield 21, 3) := by decide +kernel
theorem dX8_sumOfLevels_9 : decode cX8_sumOfLevels 9 = .ok (.if_icmp .ge 25, 3) := by decide +kernel
theorem dX8_sumOfLevels_12 : decode cX8_sumOfLevels 12 = .ok (.lload_n 1, 1) := by decide +kernel
theorem dX8_sumOfLevels_13 : decode cX8_sumOfLevels 13 = .ok (.aload_n 0, 1) := by decide +kernel
theorem dX8_sumOfLevels_14 : decode cX8_sumOfLevels 14 = .ok (.iload_n 3, 1) := by decide +kernel
theorem dX8_sumOfLevels_15 : decode cX8_sumOfLevels 15 = .ok (.invokevirtual 43, 3) := by decide +kernel
theorem dX8_sumOfLevels_18 : decode cX8_sumOfLevels 18 = .ok (.i2l, 1) := by decide +kernel
theorem dX8_sumOfLevels_19 : decode cX8_sumOfLevels 19 = .ok (.aload_n 0, 1) := by decide +kernel
theorem dX8_sumOfLevels_20 : decode cX8_sumOfLevels 20 = .ok (.iload_n 3, 1) := by decide +kernel
theorem dX8_sumOfLevels_21 : decode cX8_sumOfLevels 21 = .ok (.invokevirtual 50, 3) := by decide +kernel
theorem dX8_sumOfLevels_24 : decode cX8_sumOfLevels 24 = .ok (.i2l, 1) := by decide +kernel
theorem dX8_sumOfLevels_25 : decode cX8_sumOfLevels 25 = .ok (.lmul, 1) := by decide +kernel
theorem dX8_sumOfLevels_26 : decode cX8_sumOfLevels 26 = .ok (.ladd, 1) := by decide +kernel
theorem dX8_sumOfLevels_27 : decode cX8_sumOfLevels 27 = .ok (.lstore_n 1, 1) := by decide +kernel
theorem dX8_sumOfLevels_28 : decode cX8_sumOfLevels 28 = .ok (.iinc 3 1, 3) := by decide +kernel
theorem dX8_sumOfLevels_31 : decode cX8_sumOfLevels 31 = .ok (.goto (-27), 3) := by decide +kernel
theorem dX8_sumOfLevels_34 : decode cX8_sumOfLevels 34 = .ok (.lload_n 1, 1) := by decide +kernel
theorem dX8_sumOfLevels_35 : decode cX8_sumOfLevels 35 = .ok (.lreturn, 1) := by decide +kernel
theorem dX8_restOfRank_0 : decode cX8_restOfRank 0 = .ok (.iconst 0, 1) := by decide +kernel
theorem dX8_restOfRank_1 : decode cX8_restOfRank 1 = .ok (.istore_n 2, 1) := by decide +kernel
theorem dX8_restOfRank_2 : decode cX8_restOfRank 2 = .ok (.iload_n 2, 1) := by decide +kernel
theorem dX8_restOfRank_3 : decode cX8_restOfRank 3 = .ok (.aload_n 0, 1) := by decide +kernel
theorem dX8_restOfRank_4 : decode cX8_restOfRank 4 = .ok (.getfield 21, 3) := by decide +kernel
theorem dX8_restOfRank_7 : decode cX8_restOfRank 7 = .ok (.if_icmp .ge 28, 3) := by decide +kernel
theorem dX8_restOfRank_10 : decode cX8_restOfRank 10 = .ok (.aload_n 0, 1) := by decide +kernel
theorem dX8_restOfRank_11 : decode cX8_restOfRank 11 = .ok (.iload_n 2, 1) := by decide +kernel
theorem dX8_restOfRank_12 : decode cX8_restOfRank 12 = .ok (.invokevirtual 46, 3) := by decide +kernel
theorem dX8_restOfRank_15 : decode cX8_restOfRank 15 = .ok (.ifCond .eq 14, 3) := by decide +kernel
theorem dX8_restOfRank_18 : decode cX8_restOfRank 18 = .ok (.aload_n 0, 1) := by decide +kernel
theorem dX8_restOfRank_19 : decode cX8_restOfRank 19 = .ok (.iload_n 2, 1) := by decide +kernel
theorem dX8_restOfRank_20 : decode cX8_restOfRank 20 = .ok (.invokevirtual 53, 3) := by decide +kernel
theorem dX8_restOfRank_23 : decode cX8_restOfRank 23 = .ok (.iload_n 1, 1) := by decide +kernel
theorem dX8_restOfRank_24 : decode cX8_restOfRank 24 = .ok (.if_icmp .ne 5, 3) := by decide +kernel
theorem dX8_restOfRank_27 : decode cX8_restOfRank 27 = .ok (.iload_n 2, 1) := by decide +kernel
theorem dX8_restOfRank_28 : decode cX8_restOfRank 28 = .ok (.ireturn, 1) := by decide +kernel
theorem dX8_restOfRank_29 : decode cX8_restOfRank 29 = .ok (.iinc 2 1, 3) := by decide +kernel
theorem dX8_restOfRank_32 : decode cX8_restOfRank 32 = .ok (.goto (-30), 3) := by decide +kernel
theorem dX8_restOfRank_35 : decode cX8_restOfRank 35 = .ok (.iconst (-1), 1) := by decide +kernel
theorem dX8_restOfRank_36 : decode cX8_restOfRank 36 = .ok (.ireturn, 1) := by decide +kernel
theorem dX8_restsBefore_0 : decode cX8_restsBefore 0 = .ok (.iconst 0, 1) := by decide +kernel
theorem dX8_restsBefore_1 : decode cX8_restsBefore 1 = .ok (.istore_n 2, 1) := by decide +kernel
theorem dX8_restsBefore_2 : decode cX8_restsBefore 2 = .ok (.iconst 0, 1) := by decide +kernel
theorem dX8_restsBefore_3 : decode cX8_restsBefore 3 = .ok (.istore_n 3, 1) := by decide +kernel
theorem dX8_restsBefore_4 : decode cX8_restsBefore 4 = .ok (.iload_n 3, 1) := by decide +kernel
theorem dX8_restsBefore_5 : decode cX8_restsBefore 5 = .ok (.aload_n 0, 1) := by decide +kernel
theorem dX8_restsBefore_6 : decode cX8_restsBefore 6 = .ok (.getfield 21, 3) := by decide +kernel
theorem dX8_restsBefore_9 : decode cX8_restsBefore 9 = .ok (.if_icmp .ge 75, 3) := by decide +kernel
theorem dX8_restsBefore_12 : decode cX8_restsBefore 12 = .ok (.aload_n 0, 1) := by decide +kernel
theorem dX8_restsBefore_13 : decode cX8_restsBefore 13 = .ok (.iload_n 3, 1) := by decide +kernel
theorem dX8_restsBefore_14 : decode cX8_restsBefore 14 = .ok (.invokevirtual 50, 3) := by decide +kernel
theorem dX8_restsBefore_17 : decode cX8_restsBefore 17 = .ok (.aload_n 0, 1) := by decide +kernel
theorem dX8_restsBefore_18 : decode cX8_restsBefore 18 = .ok (.iload_n 1, 1) := by decide +kernel
theorem dX8_restsBefore_19 : decode cX8_restsBefore 19 = .ok (.invokevirtual 50, 3) := by decide +kernel
theorem dX8_restsBefore_22 : decode cX8_restsBefore 22 = .ok (.if_icmp .le 7, 3) := by decide +kernel
theorem dX8_restsBefore_25 : decode cX8_restsBefore 25 = .ok (.iconst 1, 1) := by decide +kernel
theorem dX8_restsBefore_26 : decode cX8_restsBefore 26 = .ok (.goto 4, 3) := by decide +kernel
theorem dX8_restsBefore_29 : decode cX8_restsBefore 29 = .ok (.iconst 0, 1) := by decide +kernel
theorem dX8_restsBefore_30 : decode cX8_restsBefore 30 = .ok (.istore 4, 2) := by decide +kernel
theorem dX8_restsBefore_32 : decode cX8_restsBefore 32 = .ok (.aload_n 0, 1) := by decide +kernel
theorem dX8_restsBefore_33 : decode cX8_restsBefore 33 = .ok (.iload_n 3, 1) := by decide +kernel
theorem dX8_restsBefore_34 : decode cX8_restsBefore 34 = .ok (.invokevirtual 50, 3) := by decide +kernel
theorem dX8_restsBefore_37 : decode cX8_restsBefore 37 = .ok (.aload_n 0, 1) := by decide +kernel
theorem dX8_restsBefore_38 : decode cX8_restsBefore 38 = .ok (.iload_n 1, 1) := by decide +kernel
theorem dX8_restsBefore_39 : decode cX8_restsBefore 39 = .ok (.invokevirtual 50, 3) := by decide +kernel
theorem dX8_restsBefore_42 : decode cX8_restsBefore 42 = .ok (.if_icmp .ne 12, 3) := by decide +kernel
theorem dX8_restsBefore_45 : decode cX8_restsBefore 45 = .ok (.iload_n 3, 1) := by decide +kernel
theorem dX8_restsBefore_46 : decode cX8_restsBefore 46 = .ok (.iload_n 1, 1) := by decide +kernel
theorem dX8_restsBefore_47 : decode cX8_restsBefore 47 = .ok (.if_icmp .ge 7, 3) := by decide +kernel
theorem dX8_restsBefore_50 : decode cX8_restsBefore 50 = .ok (.iconst 1, 1) := by decide +kernel
theorem dX8_restsBefore_51 : decode cX8_restsBefore 51 = .ok (.goto 4, 3) := by decide +kernel
theorem dX8_restsBefore_54 : decode cX8_restsBefore 54 = .ok (.iconst 0, 1) := by decide +kernel
theorem dX8_restsBefore_55 : decode cX8_restsBefore 55 = .ok (.istore 5, 2) := by decide +kernel
theorem dX8_restsBefore_57 : decode cX8_restsBefore 57 = .ok (.aload_n 0, 1) := by decide +kernel
theorem dX8_restsBefore_58 : decode cX8_restsBefore 58 = .ok (.iload_n 3, 1) := by decide +kernel
theorem dX8_restsBefore_59 : decode cX8_restsBefore 59 = .ok (.invokevirtual 46, 3) := by decide +kernel
theorem dX8_restsBefore_62 : decode cX8_restsBefore 62 = .ok (.ifCond .eq 16, 3) := by decide +kernel
theorem dX8_restsBefore_65 : decode cX8_restsBefore 65 = .ok (.iload 4, 2) := by decide +kernel
theorem dX8_restsBefore_67 : decode cX8_restsBefore 67 = .ok (.ifCond .ne 8, 3) := by decide +kernel
theorem dX8_restsBefore_70 : decode cX8_restsBefore 70 = .ok (.iload 5, 2) := by decide +kernel
theorem dX8_restsBefore_72 : decode cX8_restsBefore 72 = .ok (.ifCond .eq 6, 3) := by decide +kernel
theorem dX8_restsBefore_75 : decode cX8_restsBefore 75 = .ok (.iinc 2 1, 3) := by decide +kernel
theorem dX8_restsBefore_78 : decode cX8_restsBefore 78 = .ok (.iinc 3 1, 3) := by decide +kernel
theorem dX8_restsBefore_81 : decode cX8_restsBefore 81 = .ok (.goto (-77), 3) := by decide +kernel
theorem dX8_restsBefore_84 : decode cX8_restsBefore 84 = .ok (.iload_n 2, 1) := by decide +kernel
theorem dX8_restsBefore_85 : decode cX8_restsBefore 85 = .ok (.ireturn, 1) := by decide +kernel
theorem dX8_firstAfter_0 : decode cX8_firstAfter 0 = .ok (.iconst 0, 1) := by decide +kernel
theorem dX8_firstAfter_1 : decode cX8_firstAfter 1 = .ok (.istore_n 2, 1) := by decide +kernel
theorem dX8_firstAfter_2 : decode cX8_firstAfter 2 = .ok (.iload_n 2, 1) := by decide +kernel
theorem dX8_firstAfter_3 : decode cX8_firstAfter 3 = .ok (.aload_n 0, 1) := by decide +kernel
theorem dX8_firstAfter_4 : decode cX8_firstAfter 4 = .ok (.getfield 21, 3) := by decide +kernel
theorem dX8_firstAfter_7 : decode cX8_firstAfter 7 = .ok (.if_icmp .ge 20, 3) := by decide +kernel
theorem dX8_firstAfter_10 : decode cX8_firstAfter 10 = .ok (.aload_n 0, 1) := by decide +kernel
theorem dX8_firstAfter_11 : decode cX8_firstAfter 11 = .ok (.iload_n 2, 1) := by decide +kernel
theorem dX8_firstAfter_12 : decode cX8_firstAfter 12 = .ok (.invokevirtual 56, 3) := by decide +kernel
theorem dX8_firstAfter_15 : decode cX8_firstAfter 15 = .ok (.iload_n 1, 1) := by decide +kernel
theorem dX8_firstAfter_16 : decode cX8_firstAfter 16 = .ok (.if_icmp .le 5, 3) := by decide +kernel
theorem dX8_firstAfter_19 : decode cX8_firstAfter 19 = .ok (.iload_n 2, 1) := by decide +kernel
theorem dX8_firstAfter_20 : decode cX8_firstAfter 20 = .ok (.ireturn, 1) := by decide +kernel
theorem dX8_firstAfter_21 : decode cX8_firstAfter 21 = .ok (.iinc 2 1, 3) := by decide +kernel
theorem dX8_firstAfter_24 : decode cX8_firstAfter 24 = .ok (.goto (-22), 3) := by decide +kernel
theorem dX8_firstAfter_27 : decode cX8_firstAfter 27 = .ok (.iconst (-1), 1) := by decide +kernel
theorem dX8_firstAfter_28 : decode cX8_firstAfter 28 = .ok (.ireturn, 1) := by decide +kernel
theorem dX8_firstWith_0 : decode cX8_firstWith 0 = .ok (.iconst 0, 1) := by decide +kernel
theorem dX8_firstWith_1 : decode cX8_firstWith 1 = .ok (.istore_n 3, 1) := by decide +kernel
theorem dX8_firstWith_2 : decode cX8_firstWith 2 = .ok (.iload_n 3, 1) := by decide +kernel
theorem dX8_firstWith_3 : decode cX8_firstWith 3 = .ok (.aload_n 0, 1) := by decide +kernel
theorem dX8_firstWith_4 : decode cX8_firstWith 4 = .ok (.getfield 21, 3) := by decide +kernel
theorem dX8_firstWith_7 : decode cX8_firstWith 7 = .ok (.if_icmp .ge 29, 3) := by decide +kernel
theorem dX8_firstWith_10 : decode cX8_firstWith 10 = .ok (.aload_n 0, 1) := by decide +kernel
theorem dX8_firstWith_11 : decode cX8_firstWith 11 = .ok (.iload_n 3, 1) := by decide +kernel
theorem dX8_firstWith_12 : decode cX8_firstWith 12 = .ok (.invokevirtual 43, 3) := by decide +kernel
theorem dX8_firstWith_15 : decode cX8_firstWith 15 = .ok (.iload_n 1, 1) := by decide +kernel
theorem dX8_firstWith_16 : decode cX8_firstWith 16 = .ok (.if_icmp .ne 14, 3) := by decide +kernel
theorem dX8_firstWith_19 : decode cX8_firstWith 19 = .ok (.aload_n 0, 1) := by decide +kernel
theorem dX8_firstWith_20 : decode cX8_firstWith 20 = .ok (.iload_n 3, 1) := by decide +kernel
theorem dX8_firstWith_21 : decode cX8_firstWith 21 = .ok (.invokevirtual 50, 3) := by decide +kernel
theorem dX8_firstWith_24 : decode cX8_firstWith 24 = .ok (.iload_n 2, 1) := by decide +kernel
theorem dX8_firstWith_25 : decode cX8_firstWith 25 = .ok (.if_icmp .lt 5, 3) := by decide +kernel
theorem dX8_firstWith_28 : decode cX8_firstWith 28 = .ok (.iload_n 3, 1) := by decide +kernel
theorem dX8_firstWith_29 : decode cX8_firstWith 29 = .ok (.ireturn, 1) := by decide +kernel
theorem dX8_firstWith_30 : decode cX8_firstWith 30 = .ok (.iinc 3 1, 3) := by decide +kernel
theorem dX8_firstWith_33 : decode cX8_firstWith 33 = .ok (.goto (-31), 3) := by decide +kernel
theorem dX8_firstWith_36 : decode cX8_firstWith 36 = .ok (.iconst (-1), 1) := by decide +kernel
theorem dX8_firstWith_37 : decode cX8_firstWith 37 = .ok (.ireturn, 1) := by decide +kernel
theorem dX8_areMaximal_0 : decode cX8_areMaximal 0 = .ok (.iconst 1, 1) := by decide +kernel
theorem dX8_areMaximal_1 : decode cX8_areMaximal 1 = .ok (.istore_n 1, 1) := by decide +kernel
theorem dX8_areMaximal_2 : decode cX8_areMaximal 2 = .ok (.iload_n 1, 1) := by decide +kernel
theorem dX8_areMaximal_3 : decode cX8_areMaximal 3 = .ok (.aload_n 0, 1) := by decide +kernel
theorem dX8_areMaximal_4 : decode cX8_areMaximal 4 = .ok (.getfield 21, 3) := by decide +kernel
theorem dX8_areMaximal_7 : decode cX8_areMaximal 7 = .ok (.if_icmp .ge 26, 3) := by decide +kernel
theorem dX8_areMaximal_10 : decode cX8_areMaximal 10 = .ok (.aload_n 0, 1) := by decide +kernel
theorem dX8_areMaximal_11 : decode cX8_areMaximal 11 = .ok (.iload_n 1, 1) := by decide +kernel
theorem dX8_areMaximal_12 : decode cX8_areMaximal 12 = .ok (.invokevirtual 43, 3) := by decide +kernel
theorem dX8_areMaximal_15 : decode cX8_areMaximal 15 = .ok (.aload_n 0, 1) := by decide +kernel
theorem dX8_areMaximal_16 : decode cX8_areMaximal 16 = .ok (.iload_n 1, 1) := by decide +kernel
theorem dX8_areMaximal_17 : decode cX8_areMaximal 17 = .ok (.iconst 1, 1) := by decide +kernel
theorem dX8_areMaximal_18 : decode cX8_areMaximal 18 = .ok (.isub, 1) := by decide +kernel
theorem dX8_areMaximal_19 : decode cX8_areMaximal 19 = .ok (.invokevirtual 43, 3) := by decide +kernel
theorem dX8_areMaximal_22 : decode cX8_areMaximal 22 = .ok (.if_icmp .ne 5, 3) := by decide +kernel
theorem dX8_areMaximal_25 : decode cX8_areMaximal 25 = .ok (.iconst 0, 1) := by decide +kernel
theorem dX8_areMaximal_26 : decode cX8_areMaximal 26 = .ok (.ireturn, 1) := by decide +kernel
theorem dX8_areMaximal_27 : decode cX8_areMaximal 27 = .ok (.iinc 1 1, 3) := by decide +kernel
theorem dX8_areMaximal_30 : decode cX8_areMaximal 30 = .ok (.goto (-28), 3) := by decide +kernel
theorem dX8_areMaximal_33 : decode cX8_areMaximal 33 = .ok (.iconst 1, 1) := by decide +kernel
theorem dX8_areMaximal_34 : decode cX8_areMaximal 34 = .ok (.ireturn, 1) := by decide +kernel
theorem dX9_init_0 : decode cX9_init 0 = .ok (.aload_n 0, 1) := by decide +kernel
theorem dX9_init_1 : decode cX9_init 1 = .ok (.invokespecial 3, 3) := by decide +kernel
theorem dX9_init_4 : decode cX9_init 4 = .ok (.aload_n 0, 1) := by decide +kernel
theorem dX9_init_5 : decode cX9_init 5 = .ok (.bipush 8, 2) := by decide +kernel
theorem dX9_init_7 : decode cX9_init 7 = .ok (.anewarray 9, 3) := by decide +kernel
theorem dX9_init_10 : decode cX9_init 10 = .ok (.putfield 11, 3) := by decide +kernel
theorem dX9_init_13 : decode cX9_init 13 = .ok (.iconst 0, 1) := by decide +kernel
theorem dX9_init_14 : decode cX9_init 14 = .ok (.istore_n 1, 1) := by decide +kernel
theorem dX9_init_15 : decode cX9_init 15 = .ok (.iload_n 1, 1) := by decide +kernel
theorem dX9_init_16 : decode cX9_init 16 = .ok (.aload_n 0, 1) := by decide +kernel
theorem dX9_init_17 : decode cX9_init 17 = .ok (.getfield 11, 3) := by decide +kernel
theorem dX9_init_20 : decode cX9_init 20 = .ok (.arraylength, 1) := by decide +kernel
theorem dX9_init_21 : decode cX9_init 21 = .ok (.if_icmp .ge 22, 3) := by decide +kernel
theorem dX9_init_24 : decode cX9_init 24 = .ok (.aload_n 0, 1) := by decide +kernel
theorem dX9_init_25 : decode cX9_init 25 = .ok (.getfield 11, 3) := by decide +kernel
theorem dX9_init_28 : decode cX9_init 28 = .ok (.iload_n 1, 1) := by decide +kernel
theorem dX9_init_29 : decode cX9_init 29 = .ok (.new 9, 3) := by decide +kernel
theorem dX9_init_32 : decode cX9_init 32 = .ok (.dup, 1) := by decide +kernel
theorem dX9_init_33 : decode cX9_init 33 = .ok (.invokespecial 17, 3) := by decide +kernel
theorem dX9_init_36 : decode cX9_init 36 = .ok (.aastore, 1) := by decide +kernel
theorem dX9_init_37 : decode cX9_init 37 = .ok (.iinc 1 1, 3) := by decide +kernel
theorem dX9_init_40 : decode cX9_init 40 = .ok (.goto (-25), 3) := by decide +kernel
theorem dX9_init_43 : decode cX9_init 43 = .ok (.return_, 1) := by decide +kernel
theorem dX9_count_0 : decode cX9_count 0 = .ok (.aload_n 0, 1) := by decide +kernel
theorem dX9_count_1 : decode cX9_count 1 = .ok (.getfield 18, 3) := by decide +kernel
theorem dX9_count_4 : decode cX9_count 4 = .ok (.ireturn, 1) := by decide +kernel
theorem dX9_clear_0 : decode cX9_clear 0 = .ok (.aload_n 0, 1) := by decide +kernel
theorem dX9_clear_1 : decode cX9_clear 1 = .ok (.iconst 0, 1) := by decide +kernel
theorem dX9_clear_2 : decode cX9_clear 2 = .ok (.putfield 18, 3) := by decide +kernel
theorem dX9_clear_5 : decode cX9_clear 5 = .ok (.return_, 1) := by decide +kernel
theorem dX9_at_0 : decode cX9_at 0 = .ok (.iload_n 1, 1) := by decide +kernel
theorem dX9_at_1 : decode cX9_at 1 = .ok (.ifCond .lt 21, 3) := by decide +kernel
theorem dX9_at_4 : decode cX9_at 4 = .ok (.iload_n 1, 1) := by decide +kernel
theorem dX9_at_5 : decode cX9_at 5 = .ok (.aload_n 0, 1) := by decide +kernel
theorem dX9_at_6 : decode cX9_at 6 = .ok (.getfield 11, 3) := by decide +kernel
theorem dX9_at_9 : decode cX9_at 9 = .ok (.arraylength, 1) := by decide +kernel
theorem dX9_at_10 : decode cX9_at 10 = .ok (.if_icmp .ge 12, 3) := by decide +kernel
theorem dX9_at_13 : decode cX9_at 13 = .ok (.aload_n 0, 1) := by decide +kernel
theorem dX9_at_14 : decode cX9_at 14 = .ok (.getfield 11, 3) := by decide +kernel
theorem dX9_at_17 : decode cX9_at 17 = .ok (.iload_n 1, 1) := by decide +kernel
theorem dX9_at_18 : decode cX9_at 18 = .ok (.aaload, 1) := by decide +kernel
theorem dX9_at_19 : decode cX9_at 19 = .ok (.goto 4, 3) := by decide +kernel
theorem dX9_at_22 : decode cX9_at 22 = .ok (.aconst_null, 1) := by decide +kernel
theorem dX9_at_23 : decode cX9_at 23 = .ok (.areturn, 1) := by decide +kernel
theorem dX9_append_0 : decode cX9_append 0 = .ok (.aload_n 0, 1) := by decide +kernel
theorem dX9_append_1 : decode cX9_append 1 = .ok (.aload_n 0, 1) := by decide +kernel
theorem dX9_append_2 : decode cX9_append 2 = .ok (.getfield 18, 3) := by decide +kernel
theorem dX9_append_5 : decode cX9_append 5 = .ok (.invokevirtual 22, 3) := by decide +kernel
theorem dX9_append_8 : decode cX9_append 8 = .ok (.astore 5, 2) := by decide +kernel
theorem dX9_append_10 : decode cX9_append 10 = .ok (.aload 5, 2) := by decide +kernel
theorem dX9_append_12 : decode cX9_append 12 = .ok (.ifnull 38, 3) := by decide +kernel
theorem dX9_append_15 : decode cX9_append 15 = .ok (.aload 5, 2) := by decide +kernel
theorem dX9_append_17 : decode cX9_append 17 = .ok (.aload_n 1, 1) := by decide +kernel
theorem dX9_append_18 : decode cX9_append 18 = .ok (.putfield 26, 3) := by decide +kernel
theorem dX9_append_21 : decode cX9_append 21 = .ok (.aload 5, 2) := by decide +kernel
theorem dX9_append_23 : decode cX9_append 23 = .ok (.iload_n 2, 1) := by decide +kernel
theorem dX9_append_24 : decode cX9_append 24 = .ok (.putfield 30, 3) := by decide +kernel
theorem dX9_append_27 : decode cX9_append 27 = .ok (.aload 5, 2) := by decide +kernel
theorem dX9_append_29 : decode cX9_append 29 = .ok (.iload_n 3, 1) := by decide +kernel
theorem dX9_append_30 : decode cX9_append 30 = .ok (.putfield 33, 3) := by decide +kernel
theorem dX9_append_33 : decode cX9_append 33 = .ok (.aload 5, 2) := by decide +kernel
theorem dX9_append_35 : decode cX9_append 35 = .ok (.iload 4, 2) := by decide +kernel
theorem dX9_append_37 : decode cX9_append 37 = .ok (.putfield 36, 3) := by decide +kernel
theorem dX9_append_40 : decode cX9_append 40 = .ok (.aload_n 0, 1) := by decide +kernel
theorem dX9_append_41 : decode cX9_append 41 = .ok (.dup, 1) := by decide +kernel
theorem dX9_append_42 : decode cX9_append 42 = .ok (.getfield 18, 3) := by decide +kernel
theorem dX9_append_45 : decode cX9_append 45 = .ok (.iconst 1, 1) := by decide +kernel
theorem dX9_append_46 : decode cX9_append 46 = .ok (.iadd, 1) := by decide +kernel
theorem dX9_append_47 : decode cX9_append 47 = .ok (.putfield 18, 3) := by decide +kernel
theorem dX9_append_50 : decode cX9_append 50 = .ok (.return_, 1) := by decide +kernel
theorem dX10_init_0 : decode cX10_init 0 = .ok (.aload_n 0, 1) := by decide +kernel
theorem dX10_init_1 : decode cX10_init 1 = .ok (.invokespecial 3, 3) := by decide +kernel
theorem dX10_init_4 : decode cX10_init 4 = .ok (.aload_n 0, 1) := by decide +kernel
theorem dX10_init_5 : decode cX10_init 5 = .ok (.new 9, 3) := by decide +kernel
theorem dX10_init_8 : decode cX10_init 8 = .ok (.dup, 1) := by decide +kernel
theorem dX10_init_9 : decode cX10_init 9 = .ok (.invokespecial 11, 3) := by decide +kernel
theorem dX10_init_12 : decode cX10_init 12 = .ok (.putfield 12, 3) := by decide +kernel
theorem dX10_init_15 : decode cX10_init 15 = .ok (.aload_n 0, 1) := by decide +kernel
theorem dX10_init_16 : decode cX10_init 16 = .ok (.new 18, 3) := by decide +kernel
theorem dX10_init_19 : decode cX10_init 19 = .ok (.dup, 1) := by decide +kernel
theorem dX10_init_20 : decode cX10_init 20 = .ok (.invokespecial 20, 3) := by decide +kernel
theorem dX10_init_23 : decode cX10_init 23 = .ok (.putfield 21, 3) := by decide +kernel
theorem dX10_init_26 : decode cX10_init 26 = .ok (.aload_n 0, 1) := by decide +kernel
theorem dX10_init_27 : decode cX10_init 27 = .ok (.new 9, 3) := by decide +kernel
theorem dX10_init_30 : decode cX10_init 30 = .ok (.dup, 1) := by decide +kernel
theorem dX10_init_31 : decode cX10_init 31 = .ok (.invokespecial 11, 3) := by decide +kernel
theorem dX10_init_34 : decode cX10_init 34 = .ok (.putfield 25, 3) := by decide +kernel
theorem dX10_init_37 : decode cX10_init 37 = .ok (.return_, 1) := by decide +kernel
theorem dX10_become_0 : decode cX10_become 0 = .ok (.aload_n 0, 1) := by decide +kernel
theorem dX10_become_1 : decode cX10_become 1 = .ok (.getfield 12, 3) := by decide +kernel
theorem dX10_become_4 : decode cX10_become 4 = .ok (.aload_n 1, 1) := by decide +kernel
theorem dX10_become_5 : decode cX10_become 5 = .ok (.getfield 12, 3) := by decide +kernel
theorem dX10_become_8 : decode cX10_become 8 = .ok (.invokevirtual 28, 3) := by decide +kernel
theorem dX10_become_11 : decode cX10_become 11 = .ok (.aload_n 0, 1) := by decide +kernel
theorem dX10_become_12 : decode cX10_become 12 = .ok (.getfield 21, 3) := by decide +kernel
theorem dX10_become_15 : decode cX10_become 15 = .ok (.aload_n 1, 1) := by decide +kernel
theorem dX10_become_16 : decode cX10_become 16 = .ok (.getfield 21, 3) := by decide +kernel
theorem dX10_become_19 : decode cX10_become 19 = .ok (.invokevirtual 32, 3) := by decide +kernel
theorem dX10_become_22 : decode cX10_become 22 = .ok (.aload_n 0, 1) := by decide +kernel
theorem dX10_become_23 : decode cX10_become 23 = .ok (.getfield 25, 3) := by decide +kernel
theorem dX10_become_26 : decode cX10_become 26 = .ok (.aload_n 1, 1) := by decide +kernel
theorem dX10_become_27 : decode cX10_become 27 = .ok (.getfield 25, 3) := by decide +kernel
theorem dX10_become_30 : decode cX10_become 30 = .ok (.invokevirtual 28, 3) := by decide +kernel
theorem dX10_become_33 : decode cX10_become 33 = .ok (.aload_n 0, 1) := by decide +kernel
theorem dX10_become_34 : decode cX10_become 34 = .ok (.aload_n 1, 1) := by decide +kernel
theorem dX10_become_35 : decode cX10_become 35 = .ok (.getfield 35, 3) := by decide +kernel
theorem dX10_become_38 : decode cX10_become 38 = .ok (.putfield 35, 3) := by decide +kernel
theorem dX10_become_41 : decode cX10_become 41 = .ok (.return_, 1) := by decide +kernel
theorem dX10_replaceTimeline_0 : decode cX10_replaceTimeline 0 = .ok (.aload_n 0, 1) := by decide +kernel
theorem dX10_replaceTimeline_1 : decode cX10_replaceTimeline 1 = .ok (.getfield 12, 3) := by decide +kernel
theorem dX10_replaceTimeline_4 : decode cX10_replaceTimeline 4 = .ok (.aload_n 1, 1) := by decide +kernel
theorem dX10_replaceTimeline_5 : decode cX10_replaceTimeline 5 = .ok (.invokevirtual 28, 3) := by decide +kernel
theorem dX10_replaceTimeline_8 : decode cX10_replaceTimeline 8 = .ok (.aload_n 0, 1) := by decide +kernel
theorem dX10_replaceTimeline_9 : decode cX10_replaceTimeline 9 = .ok (.getfield 21, 3) := by decide +kernel
theorem dX10_replaceTimeline_12 : decode cX10_replaceTimeline 12 = .ok (.invokevirtual 39, 3) := by decide +kernel
theorem dX10_replaceTimeline_15 : decode cX10_replaceTimeline 15 = .ok (.return_, 1) := by decide +kernel
theorem dX10_faultOf_0 : decode cX10_faultOf 0 = .ok (.getstatic 42, 3) := by decide +kernel
theorem dX10_faultOf_3 : decode cX10_faultOf 3 = .ok (.aload_n 1, 1) := by decide +kernel
theorem dX10_faultOf_4 : decode cX10_faultOf 4 = .ok (.invokevirtual 48, 3) := by decide +kernel
theorem dX10_faultOf_7 : decode cX10_faultOf 7 = .ok (.iaload, 1) := by decide +kernel
theorem dX10_faultOf_8 : decode cX10_faultOf 8 = .ok (.tableswitch 93 1 7 #[44, 52, 59, 68, 77, 83, 89], 44) := by decide +kernel
theorem dX10_faultOf_52 : decode cX10_faultOf 52 = .ok (.iload_n 2, 1) := by decide +kernel
theorem dX10_faultOf_53 : decode cX10_faultOf 53 = .ok (.iload_n 3, 1) := by decide +kernel
theorem dX10_faultOf_54 : decode cX10_faultOf 54 = .ok (.iload 4, 2) := by decide +kernel
theorem dX10_faultOf_56 : decode cX10_faultOf 56 = .ok (.invokestatic 54, 3) := by decide +kernel
theorem dX10_faultOf_59 : decode cX10_faultOf 59 = .ok (.areturn, 1) := by decide +kernel
theorem dX10_faultOf_60 : decode cX10_faultOf 60 = .ok (.aload_n 0, 1) := by decide +kernel
theorem dX10_faultOf_61 : decode cX10_faultOf 61 = .ok (.iload_n 2, 1) := by decide +kernel
theorem dX10_faultOf_62 : decode cX10_faultOf 62 = .ok (.iload_n 3, 1) := by decide +kernel
theorem dX10_faultOf_63 : decode cX10_faultOf 63 = .ok (.invokevirtual 58, 3) := by decide +kernel
theorem dX10_faultOf_66 : decode cX10_faultOf 66 = .ok (.areturn, 1) := by decide +kernel
theorem dX10_faultOf_67 : decode cX10_faultOf 67 = .ok (.aload_n 0, 1) := by decide +kernel
theorem dX10_faultOf_68 : decode cX10_faultOf 68 = .ok (.iload_n 2, 1) := by decide +kernel
theorem dX10_faultOf_69 : decode cX10_faultOf 69 = .ok (.iload_n 3, 1) := by decide +kernel
theorem dX10_faultOf_70 : decode cX10_faultOf 70 = .ok (.iload 4, 2) := by decide +kernel
theorem dX10_faultOf_72 : decode cX10_faultOf 72 = .ok (.invokevirtual 62, 3) := by decide +kernel
theorem dX10_faultOf_75 : decode cX10_faultOf 75 = .ok (.areturn, 1) := by decide +kernel
theorem dX10_faultOf_76 : decode cX10_faultOf 76 = .ok (.aload_n 0, 1) := by decide +kernel
theorem dX10_faultOf_77 : decode cX10_faultOf 77 = .ok (.iload_n 2, 1) := by decide +kernel
theorem dX10_faultOf_78 : decode cX10_faultOf 78 = .ok (.iload_n 3, 1) := by decide +kernel
theorem dX10_faultOf_79 : decode cX10_faultOf 79 = .ok (.iload 4, 2) := by decide +kernel
theorem dX10_faultOf_81 : decode cX10_faultOf 81 = .ok (.invokevirtual 65, 3) := by decide +kernel
theorem dX10_faultOf_84 : decode cX10_faultOf 84 = .ok (.areturn, 1) := by decide +kernel
theorem dX10_faultOf_85 : decode cX10_faultOf 85 = .ok (.aload_n 0, 1) := by decide +kernel
theorem dX10_faultOf_86 : decode cX10_faultOf 86 = .ok (.iload_n 2, 1) := by decide +kernel
theorem dX10_faultOf_87 : decode cX10_faultOf 87 = .ok (.invokevirtual 68, 3) := by decide +kernel
theorem dX10_faultOf_90 : decode cX10_faultOf 90 = .ok (.areturn, 1) := by decide +kernel
theorem dX10_faultOf_91 : decode cX10_faultOf 91 = .ok (.aload_n 0, 1) := by decide +kernel
theorem dX10_faultOf_92 : decode cX10_faultOf 92 = .ok (.iload_n 2, 1) := by decide +kernel
theorem dX10_faultOf_93 : decode cX10_faultOf 93 = .ok (.invokevirtual 72, 3) := by decide +kernel
theorem dX10_faultOf_96 : decode cX10_faultOf 96 = .ok (.areturn, 1) := by decide +kernel
theorem dX10_faultOf_97 : decode cX10_faultOf 97 = .ok (.getstatic 75, 3) := by decide +kernel
theorem dX10_faultOf_100 : decode cX10_faultOf 100 = .ok (.areturn, 1) := by decide +kernel
theorem dX10_faultOf_101 : decode cX10_faultOf 101 = .ok (.aload_n 0, 1) := by decide +kernel
theorem dX10_faultOf_102 : decode cX10_faultOf 102 = .ok (.iload_n 2, 1) := by decide +kernel
theorem dX10_faultOf_103 : decode cX10_faultOf 103 = .ok (.iload_n 3, 1) := by decide +kernel
theorem dX10_faultOf_104 : decode cX10_faultOf 104 = .ok (.invokevirtual 81, 3) := by decide +kernel
theorem dX10_faultOf_107 : decode cX10_faultOf 107 = .ok (.areturn, 1) := by decide +kernel
theorem dX10_passFault_0 : decode cX10_passFault 0 = .ok (.iload_n 0, 1) := by decide +kernel
theorem dX10_passFault_1 : decode cX10_passFault 1 = .ok (.ifCond .lt 14, 3) := by decide +kernel
theorem dX10_passFault_4 : decode cX10_passFault 4 = .ok (.iload_n 0, 1) := by decide +kernel
theorem dX10_passFault_5 : decode cX10_passFault 5 = .ok (.sipush 200, 3) := by decide +kernel
theorem dX10_passFault_8 : decode cX10_passFault 8 = .ok (.if_icmp .ge 7, 3) := by decide +kernel
theorem dX10_passFault_11 : decode cX10_passFault 11 = .ok (.iconst 1, 1) := by decide +kernel
theorem dX10_passFault_12 : decode cX10_passFault 12 = .ok (.goto 4, 3) := by decide +kernel
theorem dX10_passFault_15 : decode cX10_passFault 15 = .ok (.iconst 0, 1) := by decide +kernel
theorem dX10_passFault_16 : decode cX10_passFault 16 = .ok (.istore_n 3, 1) := by decide +kernel
theorem dX10_passFault_17 : decode cX10_passFault 17 = .ok (.iload_n 1, 1) := by decide +kernel
theorem dX10_passFault_18 : decode cX10_passFault 18 = .ok (.iconst 1, 1) := by decide +kernel
theorem dX10_passFault_19 : decode cX10_passFault 19 = .ok (.if_icmp .lt 13, 3) := by decide +kernel
theorem dX10_passFault_22 : decode cX10_passFault 22 = .ok (.iload_n 1, 1) := by decide +kernel
theorem dX10_passFault_23 : decode cX10_passFault 23 = .ok (.bipush 50, 2) := by decide +kernel
theorem dX10_passFault_25 : decode cX10_passFault 25 = .ok (.if_icmp .gt 7, 3) := by decide +kernel
theorem dX10_passFault_28 : decode cX10_passFault 28 = .ok (.iconst 1, 1) := by decide +kernel
theorem dX10_passFault_29 : decode cX10_passFault 29 = .ok (.goto 4, 3) := by decide +kernel
theorem dX10_passFault_32 : decode cX10_passFault 32 = .ok (.iconst 0, 1) := by decide +kernel
theorem dX10_passFault_33 : decode cX10_passFault 33 = .ok (.istore 4, 2) := by decide +kernel
theorem dX10_passFault_35 : decode cX10_passFault 35 = .ok (.iload_n 2, 1) := by decide +kernel
theorem dX10_passFault_36 : decode cX10_passFault 36 = .ok (.iconst 1, 1) := by decide +kernel
theorem dX10_passFault_37 : decode cX10_passFault 37 = .ok (.if_icmp .lt 13, 3) := by decide +kernel
theorem dX10_passFault_40 : decode cX10_passFault 40 = .ok (.iload_n 2, 1) := by decide +kernel
theorem dX10_passFault_41 : decode cX10_passFault 41 = .ok (.bipush 9, 2) := by decide +kernel
theorem dX10_passFault_43 : decode cX10_passFault 43 = .ok (.if_icmp .gt 7, 3) := by decide +kernel
theorem dX10_passFault_46 : decode cX10_passFault 46 = .ok (.iconst 1, 1) := by decide +kernel
theorem dX10_passFault_47 : decode cX10_passFault 47 = .ok (.goto 4, 3) := by decide +kernel
theorem dX10_passFault_50 : decode cX10_passFault 50 = .ok (.iconst 0, 1) := by decide +kernel
theorem dX10_passFault_51 : decode cX10_passFault 51 = .ok (.istore 5, 2) := by decide +kernel
theorem dX10_passFault_53 : decode cX10_passFault 53 = .ok (.iload_n 3, 1) := by decide +kernel
theorem dX10_passFault_54 : decode cX10_passFault 54 = .ok (.ifCond .eq 13, 3) := by decide +kernel
theorem dX10_passFault_57 : decode cX10_passFault 57 = .ok (.iload 4, 2) := by decide +kernel
theorem dX10_passFault_59 : decode cX10_passFault 59 = .ok (.ifCond .eq 8, 3) := by decide +kernel
theorem dX10_passFault_62 : decode cX10_passFault 62 = .ok (.iload 5, 2) := by decide +kernel
theorem dX10_passFault_64 : decode cX10_passFault 64 = .ok (.ifCond .ne 7, 3) := by decide +kernel
theorem dX10_passFault_67 : decode cX10_passFault 67 = .ok (.getstatic 84, 3) := by decide +kernel
theorem dX10_passFault_70 : decode cX10_passFault 70 = .ok (.areturn, 1) := by decide +kernel
theorem dX10_passFault_71 : decode cX10_passFault 71 = .ok (.iload_n 0, 1) := by decide +kernel
theorem dX10_passFault_72 : decode cX10_passFault 72 = .ok (.iload_n 1, 1) := by decide +kernel
theorem dX10_passFault_73 : decode cX10_passFault 73 = .ok (.iadd, 1) := by decide +kernel
theorem dX10_passFault_74 : decode cX10_passFault 74 = .ok (.sipush 200, 3) := by decide +kernel
theorem dX10_passFault_77 : decode cX10_passFault 77 = .ok (.if_icmp .le 9, 3) := by decide +kernel
theorem dX10_passFault_80 : decode cX10_passFault 80 = .ok (.getstatic 87, 3) := by decide +kernel
theorem dX10_passFault_83 : decode cX10_passFault 83 = .ok (.goto 6, 3) := by decide +kernel
theorem dX10_passFault_86 : decode cX10_passFault 86 = .ok (.getstatic 75, 3) := by decide +kernel
theorem dX10_passFault_89 : decode cX10_passFault 89 = .ok (.areturn, 1) := by decide +kernel
theorem dX10_restFault_0 : decode cX10_restFault 0 = .ok (.aload_n 0, 1) := by decide +kernel
theorem dX10_restFault_1 : decode cX10_restFault 1 = .ok (.iload_n 1, 1) := by decide +kernel
theorem dX10_restFault_2 : decode cX10_restFault 2 = .ok (.invokevirtual 90, 3) := by decide +kernel
theorem dX10_restFault_5 : decode cX10_restFault 5 = .ok (.ifCond .ne 7, 3) := by decide +kernel
theorem dX10_restFault_8 : decode cX10_restFault 8 = .ok (.getstatic 94, 3) := by decide +kernel
theorem dX10_restFault_11 : decode cX10_restFault 11 = .ok (.areturn, 1) := by decide +kernel
theorem dX10_restFault_12 : decode cX10_restFault 12 = .ok (.iload_n 2, 1) := by decide +kernel
theorem dX10_restFault_13 : decode cX10_restFault 13 = .ok (.iconst 1, 1) := by decide +kernel
theorem dX10_restFault_14 : decode cX10_restFault 14 = .ok (.if_icmp .lt 9, 3) := by decide +kernel
theorem dX10_restFault_17 : decode cX10_restFault 17 = .ok (.iload_n 2, 1) := by decide +kernel
theorem dX10_restFault_18 : decode cX10_restFault 18 = .ok (.bipush 50, 2) := by decide +kernel
theorem dX10_restFault_20 : decode cX10_restFault 20 = .ok (.if_icmp .le 7, 3) := by decide +kernel
theorem dX10_restFault_23 : decode cX10_restFault 23 = .ok (.getstatic 84, 3) := by decide +kernel
theorem dX10_restFault_26 : decode cX10_restFault 26 = .ok (.areturn, 1) := by decide +kernel
theorem dX10_restFault_27 : decode cX10_restFault 27 = .ok (.aload_n 0, 1) := by decide +kernel
theorem dX10_restFault_28 : decode cX10_restFault 28 = .ok (.iload_n 2, 1) := by decide +kernel
theorem dX10_restFault_29 : decode cX10_restFault 29 = .ok (.invokevirtual 97, 3) := by decide +kernel
theorem dX10_restFault_32 : decode cX10_restFault 32 = .ok (.areturn, 1) := by decide +kernel
theorem dX10_modulateFault_0 : decode cX10_modulateFault 0 = .ok (.aload_n 0, 1) := by decide +kernel
theorem dX10_modulateFault_1 : decode cX10_modulateFault 1 = .ok (.getfield 12, 3) := by decide +kernel
theorem dX10_modulateFault_4 : decode cX10_modulateFault 4 = .ok (.iload_n 1, 1) := by decide +kernel
theorem dX10_modulateFault_5 : decode cX10_modulateFault 5 = .ok (.iload_n 2, 1) := by decide +kernel
theorem dX10_modulateFault_6 : decode cX10_modulateFault 6 = .ok (.invokevirtual 100, 3) := by decide +kernel
theorem dX10_modulateFault_9 : decode cX10_modulateFault 9 = .ok (.ifCond .ne 7, 3) := by decide +kernel
theorem dX10_modulateFault_12 : decode cX10_modulateFault 12 = .ok (.getstatic 94, 3) := by decide +kernel
theorem dX10_modulateFault_15 : decode cX10_modulateFault 15 = .ok (.areturn, 1) := by decide +kernel
theorem dX10_modulateFault_16 : decode cX10_modulateFault 16 = .ok (.iload_n 3, 1) := by decide +kernel
theorem dX10_modulateFault_17 : decode cX10_modulateFault 17 = .ok (.ifCond .eq 19, 3) := by decide +kernel
theorem dX10_modulateFault_20 : decode cX10_modulateFault 20 = .ok (.iload_n 3, 1) := by decide +kernel
theorem dX10_modulateFault_21 : decode cX10_modulateFault 21 = .ok (.bipush (-8), 2) := by decide +kernel
theorem dX10_modulateFault_23 : decode cX10_modulateFault 23 = .ok (.if_icmp .lt 13, 3) := by decide +kernel
theorem dX10_modulateFault_26 : decode cX10_modulateFault 26 = .ok (.iload_n 3, 1) := by decide +kernel
theorem dX10_modulateFault_27 : decode cX10_modulateFault 27 = .ok (.bipush 8, 2) := by decide +kernel
theorem dX10_modulateFault_29 : decode cX10_modulateFault 29 = .ok (.if_icmp .gt 7, 3) := by decide +kernel
theorem dX10_modulateFault_32 : decode cX10_modulateFault 32 = .ok (.iconst 1, 1) := by decide +kernel
theorem dX10_modulateFault_33 : decode cX10_modulateFault 33 = .ok (.goto 4, 3) := by decide +kernel
theorem dX10_modulateFault_36 : decode cX10_modulateFault 36 = .ok (.iconst 0, 1) := by decide +kernel
theorem dX10_modulateFault_37 : decode cX10_modulateFault 37 = .ok (.istore 4, 2) := by decide +kernel
theorem dX10_modulateFault_39 : decode cX10_modulateFault 39 = .ok (.iload 4, 2) := by decide +kernel
theorem dX10_modulateFault_41 : decode cX10_modulateFault 41 = .ok (.ifCond .eq 9, 3) := by decide +kernel
theorem dX10_modulateFault_44 : decode cX10_modulateFault 44 = .ok (.getstatic 75, 3) := by decide +kernel
theorem dX10_modulateFault_47 : decode cX10_modulateFault 47 = .ok (.goto 6, 3) := by decide +kernel
theorem dX10_modulateFault_50 : decode cX10_modulateFault 50 = .ok (.getstatic 84, 3) := by decide +kernel
theorem dX10_modulateFault_53 : decode cX10_modulateFault 53 = .ok (.areturn, 1) := by decide +kernel
theorem dX10_repeatFault_0 : decode cX10_repeatFault 0 = .ok (.aload_n 0, 1) := by decide +kernel
theorem dX10_repeatFault_1 : decode cX10_repeatFault 1 = .ok (.getfield 12, 3) := by decide +kernel
theorem dX10_repeatFault_4 : decode cX10_repeatFault 4 = .ok (.iload_n 1, 1) := by decide +kernel
theorem dX10_repeatFault_5 : decode cX10_repeatFault 5 = .ok (.iload_n 2, 1) := by decide +kernel
theorem dX10_repeatFault_6 : decode cX10_repeatFault 6 = .ok (.invokevirtual 100, 3) := by decide +kernel
theorem dX10_repeatFault_9 : decode cX10_repeatFault 9 = .ok (.ifCond .ne 7, 3) := by decide +kernel
theorem dX10_repeatFault_12 : decode cX10_repeatFault 12 = .ok (.getstatic 94, 3) := by decide +kernel
theorem dX10_repeatFault_15 : decode cX10_repeatFault 15 = .ok (.areturn, 1) := by decide +kernel
theorem dX10_repeatFault_16 : decode cX10_repeatFault 16 = .ok (.iload_n 3, 1) := by decide +kernel
theorem dX10_repeatFault_17 : decode cX10_repeatFault 17 = .ok (.iconst 1, 1) := by decide +kernel
theorem dX10_repeatFault_18 : decode cX10_repeatFault 18 = .ok (.if_icmp .lt 9, 3) := by decide +kernel
theorem dX10_repeatFault_21 : decode cX10_repeatFault 21 = .ok (.iload_n 3, 1) := by decide +kernel
theorem dX10_repeatFault_22 : decode cX10_repeatFault 22 = .ok (.bipush 9, 2) := by decide +kernel
theorem dX10_repeatFault_24 : decode cX10_repeatFault 24 = .ok (.if_icmp .le 7, 3) := by decide +kernel
theorem dX10_repeatFault_27 : decode cX10_repeatFault 27 = .ok (.getstatic 84, 3) := by decide +kernel
theorem dX10_repeatFault_30 : decode cX10_repeatFault 30 = .ok (.areturn, 1) := by decide +kernel
theorem dX10_repeatFault_31 : decode cX10_repeatFault 31 = .ok (.aload_n 0, 1) := by decide +kernel
theorem dX10_repeatFault_32 : decode cX10_repeatFault 32 = .ok (.iload_n 2, 1) := by decide +kernel
theorem dX10_repeatFault_33 : decode cX10_repeatFault 33 = .ok (.iload_n 1, 1) := by decide +kernel
theorem dX10_repeatFault_34 : decode cX10_repeatFault 34 = .ok (.isub, 1) := by decide +kernel
theorem dX10_repeatFault_35 : decode cX10_repeatFault 35 = .ok (.iload_n 3, 1) := by decide +kernel
theorem dX10_repeatFault_36 : decode cX10_repeatFault 36 = .ok (.imul, 1) := by decide +kernel
theorem dX10_repeatFault_37 : decode cX10_repeatFault 37 = .ok (.invokevirtual 97, 3) := by decide +kernel
theorem dX10_repeatFault_40 : decode cX10_repeatFault 40 = .ok (.areturn, 1) := by decide +kernel
theorem dX10_pasteFault_0 : decode cX10_pasteFault 0 = .ok (.aload_n 0, 1) := by decide +kernel
theorem dX10_pasteFault_1 : decode cX10_pasteFault 1 = .ok (.iload_n 1, 1) := by decide +kernel
theorem dX10_pasteFault_2 : decode cX10_pasteFault 2 = .ok (.invokevirtual 90, 3) := by decide +kernel
theorem dX10_pasteFault_5 : decode cX10_pasteFault 5 = .ok (.ifCond .ne 7, 3) := by decide +kernel
theorem dX10_pasteFault_8 : decode cX10_pasteFault 8 = .ok (.getstatic 94, 3) := by decide +kernel
theorem dX10_pasteFault_11 : decode cX10_pasteFault 11 = .ok (.areturn, 1) := by decide +kernel
theorem dX10_pasteFault_12 : decode cX10_pasteFault 12 = .ok (.aload_n 0, 1) := by decide +kernel
theorem dX10_pasteFault_13 : decode cX10_pasteFault 13 = .ok (.getfield 25, 3) := by decide +kernel
theorem dX10_pasteFault_16 : decode cX10_pasteFault 16 = .ok (.invokevirtual 104, 3) := by decide +kernel
theorem dX10_pasteFault_19 : decode cX10_pasteFault 19 = .ok (.ifCond .ne 7, 3) := by decide +kernel
theorem dX10_pasteFault_22 : decode cX10_pasteFault 22 = .ok (.getstatic 107, 3) := by decide +kernel
theorem dX10_pasteFault_25 : decode cX10_pasteFault 25 = .ok (.areturn, 1) := by decide +kernel
theorem dX10_pasteFault_26 : decode cX10_pasteFault 26 = .ok (.aload_n 0, 1) := by decide +kernel
theorem dX10_pasteFault_27 : decode cX10_pasteFault 27 = .ok (.aload_n 0, 1) := by decide +kernel
theorem dX10_pasteFault_28 : decode cX10_pasteFault 28 = .ok (.getfield 25, 3) := by decide +kernel
theorem dX10_pasteFault_31 : decode cX10_pasteFault 31 = .ok (.invokevirtual 104, 3) := by decide +kernel
theorem dX10_pasteFault_34 : decode cX10_pasteFault 34 = .ok (.invokevirtual 97, 3) := by decide +kernel
theorem dX10_pasteFault_37 : decode cX10_pasteFault 37 = .ok (.areturn, 1) := by decide +kernel
theorem dX10_markFault_0 : decode cX10_markFault 0 = .ok (.aload_n 0, 1) := by decide +kernel
theorem dX10_markFault_1 : decode cX10_markFault 1 = .ok (.iload_n 1, 1) := by decide +kernel
theorem dX10_markFault_2 : decode cX10_markFault 2 = .ok (.invokevirtual 90, 3) := by decide +kernel
theorem dX10_markFault_5 : decode cX10_markFault 5 = .ok (.ifCond .ne 7, 3) := by decide +kernel
theorem dX10_markFault_8 : decode cX10_markFault 8 = .ok (.getstatic 94, 3) := by decide +kernel
theorem dX10_markFault_11 : decode cX10_markFault 11 = .ok (.areturn, 1) := by decide +kernel
theorem dX10_markFault_12 : decode cX10_markFault 12 = .ok (.aload_n 0, 1) := by decide +kernel
theorem dX10_markFault_13 : decode cX10_markFault 13 = .ok (.getfield 21, 3) := by decide +kernel
theorem dX10_markFault_16 : decode cX10_markFault 16 = .ok (.iload_n 1, 1) := by decide +kernel
theorem dX10_markFault_17 : decode cX10_markFault 17 = .ok (.invokevirtual 110, 3) := by decide +kernel
theorem dX10_markFault_20 : decode cX10_markFault 20 = .ok (.iconst (-1), 1) := by decide +kernel
theorem dX10_markFault_21 : decode cX10_markFault 21 = .ok (.if_icmp .ne 7, 3) := by decide +kernel
theorem dX10_markFault_24 : decode cX10_markFault 24 = .ok (.iconst 1, 1) := by decide +kernel
theorem dX10_markFault_25 : decode cX10_markFault 25 = .ok (.goto 4, 3) := by decide +kernel
theorem dX10_markFault_28 : decode cX10_markFault 28 = .ok (.iconst 0, 1) := by decide +kernel
theorem dX10_markFault_29 : decode cX10_markFault 29 = .ok (.istore_n 2, 1) := by decide +kernel
theorem dX10_markFault_30 : decode cX10_markFault 30 = .ok (.iload_n 2, 1) := by decide +kernel
theorem dX10_markFault_31 : decode cX10_markFault 31 = .ok (.ifCond .eq 19, 3) := by decide +kernel
theorem dX10_markFault_34 : decode cX10_markFault 34 = .ok (.aload_n 0, 1) := by decide +kernel
theorem dX10_markFault_35 : decode cX10_markFault 35 = .ok (.getfield 21, 3) := by decide +kernel
theorem dX10_markFault_38 : decode cX10_markFault 38 = .ok (.invokevirtual 114, 3) := by decide +kernel
theorem dX10_markFault_41 : decode cX10_markFault 41 = .ok (.ifCond .eq 9, 3) := by decide +kernel
theorem dX10_markFault_44 : decode cX10_markFault 44 = .ok (.getstatic 87, 3) := by decide +kernel
theorem dX10_markFault_47 : decode cX10_markFault 47 = .ok (.goto 6, 3) := by decide +kernel
theorem dX10_markFault_50 : decode cX10_markFault 50 = .ok (.getstatic 75, 3) := by decide +kernel
theorem dX10_markFault_53 : decode cX10_markFault 53 = .ok (.areturn, 1) := by decide +kernel
theorem dX10_intervalFault_0 : decode cX10_intervalFault 0 = .ok (.aload_n 0, 1) := by decide +kernel
theorem dX10_intervalFault_1 : decode cX10_intervalFault 1 = .ok (.getfield 12, 3) := by decide +kernel
theorem dX10_intervalFault_4 : decode cX10_intervalFault 4 = .ok (.iload_n 1, 1) := by decide +kernel
theorem dX10_intervalFault_5 : decode cX10_intervalFault 5 = .ok (.iload_n 2, 1) := by decide +kernel
theorem dX10_intervalFault_6 : decode cX10_intervalFault 6 = .ok (.invokevirtual 100, 3) := by decide +kernel
theorem dX10_intervalFault_9 : decode cX10_intervalFault 9 = .ok (.ifCond .eq 9, 3) := by decide +kernel
theorem dX10_intervalFault_12 : decode cX10_intervalFault 12 = .ok (.getstatic 75, 3) := by decide +kernel
theorem dX10_intervalFault_15 : decode cX10_intervalFault 15 = .ok (.goto 6, 3) := by decide +kernel
theorem dX10_intervalFault_18 : decode cX10_intervalFault 18 = .ok (.getstatic 94, 3) := by decide +kernel
theorem dX10_intervalFault_21 : decode cX10_intervalFault 21 = .ok (.areturn, 1) := by decide +kernel
theorem dX10_roomFault_0 : decode cX10_roomFault 0 = .ok (.aload_n 0, 1) := by decide +kernel
theorem dX10_roomFault_1 : decode cX10_roomFault 1 = .ok (.getfield 12, 3) := by decide +kernel
theorem dX10_roomFault_4 : decode cX10_roomFault 4 = .ok (.invokevirtual 104, 3) := by decide +kernel
theorem dX10_roomFault_7 : decode cX10_roomFault 7 = .ok (.iload_n 1, 1) := by decide +kernel
theorem dX10_roomFault_8 : decode cX10_roomFault 8 = .ok (.iadd, 1) := by decide +kernel
theorem dX10_roomFault_9 : decode cX10_roomFault 9 = .ok (.sipush 200, 3) := by decide +kernel
theorem dX10_roomFault_12 : decode cX10_roomFault 12 = .ok (.if_icmp .le 9, 3) := by decide +kernel
theorem dX10_roomFault_15 : decode cX10_roomFault 15 = .ok (.getstatic 87, 3) := by decide +kernel
theorem dX10_roomFault_18 : decode cX10_roomFault 18 = .ok (.goto 6, 3) := by decide +kernel
theorem dX10_roomFault_21 : decode cX10_roomFault 21 = .ok (.getstatic 75, 3) := by decide +kernel
theorem dX10_roomFault_24 : decode cX10_roomFault 24 = .ok (.areturn, 1) := by decide +kernel
theorem dX10_isInsertionTime_0 : decode cX10_isInsertionTime 0 = .ok (.iload_n 1, 1) := by decide +kernel
theorem dX10_isInsertionTime_1 : decode cX10_isInsertionTime 1 = .ok (.ifCond .lt 18, 3) := by decide +kernel
theorem dX10_isInsertionTime_4 : decode cX10_isInsertionTime 4 = .ok (.iload_n 1, 1) := by decide +kernel
theorem dX10_isInsertionTime_5 : decode cX10_isInsertionTime 5 = .ok (.aload_n 0, 1) := by decide +kernel
theorem dX10_isInsertionTime_6 : decode cX10_isInsertionTime 6 = .ok (.getfield 12, 3) := by decide +kernel
theorem dX10_isInsertionTime_9 : decode cX10_isInsertionTime 9 = .ok (.invokevirtual 104, 3) := by decide +kernel
theorem dX10_isInsertionTime_12 : decode cX10_isInsertionTime 12 = .ok (.if_icmp .gt 7, 3) := by decide +kernel
theorem dX10_isInsertionTime_15 : decode cX10_isInsertionTime 15 = .ok (.iconst 1, 1) := by decide +kernel
theorem dX10_isInsertionTime_16 : decode cX10_isInsertionTime 16 = .ok (.goto 4, 3) := by decide +kernel
theorem dX10_isInsertionTime_19 : decode cX10_isInsertionTime 19 = .ok (.iconst 0, 1) := by decide +kernel
theorem dX10_isInsertionTime_20 : decode cX10_isInsertionTime 20 = .ok (.ireturn, 1) := by decide +kernel
theorem dX10_carryOut_0 : decode cX10_carryOut 0 = .ok (.getstatic 42, 3) := by decide +kernel
theorem dX10_carryOut_3 : decode cX10_carryOut 3 = .ok (.aload_n 1, 1) := by decide +kernel
theorem dX10_carryOut_4 : decode cX10_carryOut 4 = .ok (.invokevirtual 48, 3) := by decide +kernel
theorem dX10_carryOut_7 : decode cX10_carryOut 7 = .ok (.iaload, 1) := by decide +kernel
theorem dX10_carryOut_8 : decode cX10_carryOut 8 = .ok (.tableswitch 140 1 11 #[60, 69, 104, 113, 122, 128, 134, 76, 83, 90, 97], 60) := by decide +kernel
theorem dX10_carryOut_68 : decode cX10_carryOut 68 = .ok (.aload_n 0, 1) := by decide +kernel
theorem dX10_carryOut_69 : decode cX10_carryOut 69 = .ok (.iload_n 2, 1) := by decide +kernel
theorem dX10_carryOut_70 : decode cX10_carryOut 70 = .ok (.iload_n 3, 1) := by decide +kernel
theorem dX10_carryOut_71 : decode cX10_carryOut 71 = .ok (.iload 4, 2) := by decide +kernel
theorem dX10_carryOut_73 : decode cX10_carryOut 73 = .ok (.invokevirtual 118, 3) := by decide +kernel
theorem dX10_carryOut_76 : decode cX10_carryOut 76 = .ok (.ireturn, 1) := by decide +kernel
theorem dX10_carryOut_77 : decode cX10_carryOut 77 = .ok (.aload_n 0, 1) := by decide +kernel
theorem dX10_carryOut_78 : decode cX10_carryOut 78 = .ok (.iload_n 2, 1) := by decide +kernel
theorem dX10_carryOut_79 : decode cX10_carryOut 79 = .ok (.iload_n 3, 1) := by decide +kernel
theorem dX10_carryOut_80 : decode cX10_carryOut 80 = .ok (.invokevirtual 122, 3) := by decide +kernel
theorem dX10_carryOut_83 : decode cX10_carryOut 83 = .ok (.ireturn, 1) := by decide +kernel
theorem dX10_carryOut_84 : decode cX10_carryOut 84 = .ok (.aload_n 0, 1) := by decide +kernel
theorem dX10_carryOut_85 : decode cX10_carryOut 85 = .ok (.iload_n 2, 1) := by decide +kernel
theorem dX10_carryOut_86 : decode cX10_carryOut 86 = .ok (.iload_n 3, 1) := by decide +kernel
theorem dX10_carryOut_87 : decode cX10_carryOut 87 = .ok (.invokevirtual 126, 3) := by decide +kernel
theorem dX10_carryOut_90 : decode cX10_carryOut 90 = .ok (.ireturn, 1) := by decide +kernel
theorem dX10_carryOut_91 : decode cX10_carryOut 91 = .ok (.aload_n 0, 1) := by decide +kernel
theorem dX10_carryOut_92 : decode cX10_carryOut 92 = .ok (.iload_n 2, 1) := by decide +kernel
theorem dX10_carryOut_93 : decode cX10_carryOut 93 = .ok (.iload_n 3, 1) := by decide +kernel
theorem dX10_carryOut_94 : decode cX10_carryOut 94 = .ok (.invokevirtual 129, 3) := by decide +kernel
theorem dX10_carryOut_97 : decode cX10_carryOut 97 = .ok (.ireturn, 1) := by decide +kernel
theorem dX10_carryOut_98 : decode cX10_carryOut 98 = .ok (.aload_n 0, 1) := by decide +kernel
theorem dX10_carryOut_99 : decode cX10_carryOut 99 = .ok (.iload_n 2, 1) := by decide +kernel
theorem dX10_carryOut_100 : decode cX10_carryOut 100 = .ok (.iload_n 3, 1) := by decide +kernel
theorem dX10_carryOut_101 : decode cX10_carryOut 101 = .ok (.invokevirtual 132, 3) := by decide +kernel
theorem dX10_carryOut_104 : decode cX10_carryOut 104 = .ok (.ireturn, 1) := by decide +kernel
theorem dX10_carryOut_105 : decode cX10_carryOut 105 = .ok (.aload_n 0, 1) := by decide +kernel
theorem dX10_carryOut_106 : decode cX10_carryOut 106 = .ok (.iload_n 2, 1) := by decide +kernel
theorem dX10_carryOut_107 : decode cX10_carryOut 107 = .ok (.iload_n 3, 1) := by decide +kernel
theorem dX10_carryOut_108 : decode cX10_carryOut 108 = .ok (.invokevirtual 135, 3) := by decide +kernel
theorem dX10_carryOut_111 : decode cX10_carryOut 111 = .ok (.ireturn, 1) := by decide +kernel
theorem dX10_carryOut_112 : decode cX10_carryOut 112 = .ok (.aload_n 0, 1) := by decide +kernel
theorem dX10_carryOut_113 : decode cX10_carryOut 113 = .ok (.iload_n 2, 1) := by decide +kernel
theorem dX10_carryOut_114 : decode cX10_carryOut 114 = .ok (.iload_n 3, 1) := by decide +kernel
theorem dX10_carryOut_115 : decode cX10_carryOut 115 = .ok (.iload 4, 2) := by decide +kernel
theorem dX10_carryOut_117 : decode cX10_carryOut 117 = .ok (.invokevirtual 138, 3) := by decide +kernel
theorem dX10_carryOut_120 : decode cX10_carryOut 120 = .ok (.ireturn, 1) := by decide +kernel
theorem dX10_carryOut_121 : decode cX10_carryOut 121 = .ok (.aload_n 0, 1) := by decide +kernel
theorem dX10_carryOut_122 : decode cX10_carryOut 122 = .ok (.iload_n 2, 1) := by decide +kernel
theorem dX10_carryOut_123 : decode cX10_carryOut 123 = .ok (.iload_n 3, 1) := by decide +kernel
theorem dX10_carryOut_124 : decode cX10_carryOut 124 = .ok (.iload 4, 2) := by decide +kernel
theorem dX10_carryOut_126 : decode cX10_carryOut 126 = .ok (.invokevirtual 141, 3) := by decide +kernel
theorem dX10_carryOut_129 : decode cX10_carryOut 129 = .ok (.ireturn, 1) := by decide +kernel
theorem dX10_carryOut_130 : decode cX10_carryOut 130 = .ok (.aload_n 0, 1) := by decide +kernel
theorem dX10_carryOut_131 : decode cX10_carryOut 131 = .ok (.iload_n 2, 1) := by decide +kernel
theorem dX10_carryOut_132 : decode cX10_carryOut 132 = .ok (.invokevirtual 144, 3) := by decide +kernel
theorem dX10_carryOut_135 : decode cX10_carryOut 135 = .ok (.ireturn, 1) := by decide +kernel
theorem dX10_carryOut_136 : decode cX10_carryOut 136 = .ok (.aload_n 0, 1) := by decide +kernel
theorem dX10_carryOut_137 : decode cX10_carryOut 137 = .ok (.iload_n 2, 1) := by decide +kernel
theorem dX10_carryOut_138 : decode cX10_carryOut 138 = .ok (.invokevirtual 147, 3) := by decide +kernel
theorem dX10_carryOut_141 : decode cX10_carryOut 141 = .ok (.ireturn, 1) := by decide +kernel
theorem dX10_carryOut_142 : decode cX10_carryOut 142 = .ok (.aload_n 0, 1) := by decide +kernel
theorem dX10_carryOut_143 : decode cX10_carryOut 143 = .ok (.iload_n 2, 1) := by decide +kernel
theorem dX10_carryOut_144 : decode cX10_carryOut 144 = .ok (.invokevirtual 150, 3) := by decide +kernel
theorem dX10_carryOut_147 : decode cX10_carryOut 147 = .ok (.ireturn, 1) := by decide +kernel
theorem dX10_carryOut_148 : decode cX10_carryOut 148 = .ok (.iconst 0, 1) := by decide +kernel
theorem dX10_carryOut_149 : decode cX10_carryOut 149 = .ok (.ireturn, 1) := by decide +kernel
theorem dX10_letTrainPass_0 : decode cX10_letTrainPass 0 = .ok (.iload_n 1, 1) := by decide +kernel
theorem dX10_letTrainPass_1 : decode cX10_letTrainPass 1 = .ok (.iload_n 2, 1) := by decide +kernel
theorem dX10_letTrainPass_2 : decode cX10_letTrainPass 2 = .ok (.iadd, 1) := by decide +kernel
theorem dX10_letTrainPass_3 : decode cX10_letTrainPass 3 = .ok (.istore 4, 2) := by decide +kernel
theorem dX10_letTrainPass_5 : decode cX10_letTrainPass 5 = .ok (.aload_n 0, 1) := by decide +kernel
theorem dX10_letTrainPass_6 : decode cX10_letTrainPass 6 = .ok (.getfield 12, 3) := by decide +kernel
theorem dX10_letTrainPass_9 : decode cX10_letTrainPass 9 = .ok (.invokevirtual 104, 3) := by decide +kernel
theorem dX10_letTrainPass_12 : decode cX10_letTrainPass 12 = .ok (.istore 5, 2) := by decide +kernel
theorem dX10_letTrainPass_14 : decode cX10_letTrainPass 14 = .ok (.iload 5, 2) := by decide +kernel
theorem dX10_letTrainPass_16 : decode cX10_letTrainPass 16 = .ok (.iload 4, 2) := by decide +kernel
theorem dX10_letTrainPass_18 : decode cX10_letTrainPass 18 = .ok (.if_icmp .ge 17, 3) := by decide +kernel
theorem dX10_letTrainPass_21 : decode cX10_letTrainPass 21 = .ok (.aload_n 0, 1) := by decide +kernel
theorem dX10_letTrainPass_22 : decode cX10_letTrainPass 22 = .ok (.getfield 12, 3) := by decide +kernel
theorem dX10_letTrainPass_25 : decode cX10_letTrainPass 25 = .ok (.iconst 0, 1) := by decide +kernel
theorem dX10_letTrainPass_26 : decode cX10_letTrainPass 26 = .ok (.invokevirtual 153, 3) := by decide +kernel
theorem dX10_letTrainPass_29 : decode cX10_letTrainPass 29 = .ok (.iinc 5 1, 3) := by decide +kernel
theorem dX10_letTrainPass_32 : decode cX10_letTrainPass 32 = .ok (.goto (-18), 3) := by decide +kernel
theorem dX10_letTrainPass_35 : decode cX10_letTrainPass 35 = .ok (.iconst 0, 1) := by decide +kernel
theorem dX10_letTrainPass_36 : decode cX10_letTrainPass 36 = .ok (.istore 5, 2) := by decide +kernel
theorem dX10_letTrainPass_38 : decode cX10_letTrainPass 38 = .ok (.iload_n 1, 1) := by decide +kernel
theorem dX10_letTrainPass_39 : decode cX10_letTrainPass 39 = .ok (.istore 6, 2) := by decide +kernel
theorem dX10_letTrainPass_41 : decode cX10_letTrainPass 41 = .ok (.iload 6, 2) := by decide +kernel
theorem dX10_letTrainPass_43 : decode cX10_letTrainPass 43 = .ok (.iload 4, 2) := by decide +kernel
theorem dX10_letTrainPass_45 : decode cX10_letTrainPass 45 = .ok (.if_icmp .ge 35, 3) := by decide +kernel
theorem dX10_letTrainPass_48 : decode cX10_letTrainPass 48 = .ok (.aload_n 0, 1) := by decide +kernel
theorem dX10_letTrainPass_49 : decode cX10_letTrainPass 49 = .ok (.getfield 12, 3) := by decide +kernel
theorem dX10_letTrainPass_52 : decode cX10_letTrainPass 52 = .ok (.iload 6, 2) := by decide +kernel
theorem dX10_letTrainPass_54 : decode cX10_letTrainPass 54 = .ok (.invokevirtual 157, 3) := by decide +kernel
theorem dX10_letTrainPass_57 : decode cX10_letTrainPass 57 = .ok (.iload_n 3, 1) := by decide +kernel
theorem dX10_letTrainPass_58 : decode cX10_letTrainPass 58 = .ok (.if_icmp .ge 16, 3) := by decide +kernel
theorem dX10_letTrainPass_61 : decode cX10_letTrainPass 61 = .ok (.aload_n 0, 1) := by decide +kernel
theorem dX10_letTrainPass_62 : decode cX10_letTrainPass 62 = .ok (.getfield 12, 3) := by decide +kernel
theorem dX10_letTrainPass_65 : decode cX10_letTrainPass 65 = .ok (.iload 6, 2) := by decide +kernel
theorem dX10_letTrainPass_67 : decode cX10_letTrainPass 67 = .ok (.iload_n 3, 1) := by decide +kernel
theorem dX10_letTrainPass_68 : decode cX10_letTrainPass 68 = .ok (.invokevirtual 160, 3) := by decide +kernel
theorem dX10_letTrainPass_71 : decode cX10_letTrainPass 71 = .ok (.iinc 5 1, 3) := by decide +kernel
theorem dX10_letTrainPass_74 : decode cX10_letTrainPass 74 = .ok (.iinc 6 1, 3) := by decide +kernel
theorem dX10_letTrainPass_77 : decode cX10_letTrainPass 77 = .ok (.goto (-36), 3) := by decide +kernel
theorem dX10_letTrainPass_80 : decode cX10_letTrainPass 80 = .ok (.aload_n 0, 1) := by decide +kernel
theorem dX10_letTrainPass_81 : decode cX10_letTrainPass 81 = .ok (.dup, 1) := by decide +kernel
theorem dX10_letTrainPass_82 : decode cX10_letTrainPass 82 = .ok (.getfield 35, 3) := by decide +kernel
theorem dX10_letTrainPass_85 : decode cX10_letTrainPass 85 = .ok (.iconst 1, 1) := by decide +kernel
theorem dX10_letTrainPass_86 : decode cX10_letTrainPass 86 = .ok (.iadd, 1) := by decide +kernel
theorem dX10_letTrainPass_87 : decode cX10_letTrainPass 87 = .ok (.putfield 35, 3) := by decide +kernel
theorem dX10_letTrainPass_90 : decode cX10_letTrainPass 90 = .ok (.iload 5, 2) := by decide +kernel
theorem dX10_letTrainPass_92 : decode cX10_letTrainPass 92 = .ok (.ireturn, 1) := by decide +kernel
theorem dX10_openTicks_0 : decode cX10_openTicks 0 = .ok (.aload_n 0, 1) := by decide +kernel
theorem dX10_openTicks_1 : decode cX10_openTicks 1 = .ok (.getfield 12, 3) := by decide +kernel
theorem dX10_openTicks_4 : decode cX10_openTicks 4 = .ok (.iload_n 1, 1) := by decide +kernel
theorem dX10_openTicks_5 : decode cX10_openTicks 5 = .ok (.iload_n 2, 1) := by decide +kernel
theorem dX10_openTicks_6 : decode cX10_openTicks 6 = .ok (.invokevirtual 164, 3) := by decide +kernel
theorem dX10_openTicks_9 : decode cX10_openTicks 9 = .ok (.aload_n 0, 1) := by decide +kernel
theorem dX10_openTicks_10 : decode cX10_openTicks 10 = .ok (.getfield 21, 3) := by decide +kernel
theorem dX10_openTicks_13 : decode cX10_openTicks 13 = .ok (.iload_n 1, 1) := by decide +kernel
theorem dX10_openTicks_14 : decode cX10_openTicks 14 = .ok (.iload_n 2, 1) := by decide +kernel
theorem dX10_openTicks_15 : decode cX10_openTicks 15 = .ok (.invokevirtual 167, 3) := by decide +kernel
theorem dX10_openTicks_18 : decode cX10_openTicks 18 = .ok (.aload_n 0, 1) := by decide +kernel
theorem dX10_openTicks_19 : decode cX10_openTicks 19 = .ok (.getfield 12, 3) := by decide +kernel
theorem dX10_openTicks_22 : decode cX10_openTicks 22 = .ok (.invokevirtual 104, 3) := by decide +kernel
theorem dX10_openTicks_25 : decode cX10_openTicks 25 = .ok (.ireturn, 1) := by decide +kernel
theorem dX10_cutOut_0 : decode cX10_cutOut 0 = .ok (.aload_n 0, 1) := by decide +kernel
theorem dX10_cutOut_1 : decode cX10_cutOut 1 = .ok (.getfield 12, 3) := by decide +kernel
theorem dX10_cutOut_4 : decode cX10_cutOut 4 = .ok (.iload_n 1, 1) := by decide +kernel
theorem dX10_cutOut_5 : decode cX10_cutOut 5 = .ok (.iload_n 2, 1) := by decide +kernel
theorem dX10_cutOut_6 : decode cX10_cutOut 6 = .ok (.invokevirtual 170, 3) := by decide +kernel
theorem dX10_cutOut_9 : decode cX10_cutOut 9 = .ok (.aload_n 0, 1) := by decide +kernel
theorem dX10_cutOut_10 : decode cX10_cutOut 10 = .ok (.getfield 21, 3) := by decide +kernel
theorem dX10_cutOut_13 : decode cX10_cutOut 13 = .ok (.iload_n 1, 1) := by decide +kernel
theorem dX10_cutOut_14 : decode cX10_cutOut 14 = .ok (.iload_n 2, 1) := by decide +kernel
theorem dX10_cutOut_15 : decode cX10_cutOut 15 = .ok (.invokevirtual 173, 3) := by decide +kernel
theorem dX10_cutOut_18 : decode cX10_cutOut 18 = .ok (.aload_n 0, 1) := by decide +kernel
theorem dX10_cutOut_19 : decode cX10_cutOut 19 = .ok (.getfield 12, 3) := by decide +kernel
theorem dX10_cutOut_22 : decode cX10_cutOut 22 = .ok (.invokevirtual 104, 3) := by decide +kernel
theorem dX10_cutOut_25 : decode cX10_cutOut 25 = .ok (.ireturn, 1) := by decide +kernel
theorem dX10_silence_0 : decode cX10_silence 0 = .ok (.aload_n 0, 1) := by decide +kernel
theorem dX10_silence_1 : decode cX10_silence 1 = .ok (.getfield 12, 3) := by decide +kernel
theorem dX10_silence_4 : decode cX10_silence 4 = .ok (.iload_n 1, 1) := by decide +kernel
theorem dX10_silence_5 : decode cX10_silence 5 = .ok (.iload_n 2, 1) := by decide +kernel
theorem dX10_silence_6 : decode cX10_silence 6 = .ok (.invokevirtual 174, 3) := by decide +kernel
theorem dX10_silence_9 : decode cX10_silence 9 = .ok (.istore_n 3, 1) := by decide +kernel
theorem dX10_silence_10 : decode cX10_silence 10 = .ok (.aload_n 0, 1) := by decide +kernel
theorem dX10_silence_11 : decode cX10_silence 11 = .ok (.getfield 12, 3) := by decide +kernel
theorem dX10_silence_14 : decode cX10_silence 14 = .ok (.iload_n 1, 1) := by decide +kernel
theorem dX10_silence_15 : decode cX10_silence 15 = .ok (.iload_n 2, 1) := by decide +kernel
theorem dX10_silence_16 : decode cX10_silence 16 = .ok (.iconst 0, 1) := by decide +kernel
theorem dX10_silence_17 : decode cX10_silence 17 = .ok (.invokevirtual 177, 3) := by decide +kernel
theorem dX10_silence_20 : decode cX10_silence 20 = .ok (.iload_n 3, 1) := by decide +kernel
theorem dX10_silence_21 : decode cX10_silence 21 = .ok (.ireturn, 1) := by decide +kernel
theorem dX10_turnRound_0 : decode cX10_turnRound 0 = .ok (.iconst 0, 1) := by decide +kernel
theorem dX10_turnRound_1 : decode cX10_turnRound 1 = .ok (.istore_n 3, 1) := by decide +kernel
theorem dX10_turnRound_2 : decode cX10_turnRound 2 = .ok (.iload_n 1, 1) := by decide +kernel
theorem dX10_turnRound_3 : decode cX10_turnRound 3 = .ok (.istore 4, 2) := by decide +kernel
theorem dX10_turnRound_5 : decode cX10_turnRound 5 = .ok (.iload_n 2, 1) := by decide +kernel
theorem dX10_turnRound_6 : decode cX10_turnRound 6 = .ok (.iconst 1, 1) := by decide +kernel
theorem dX10_turnRound_7 : decode cX10_turnRound 7 = .ok (.isub, 1) := by decide +kernel
theorem dX10_turnRound_8 : decode cX10_turnRound 8 = .ok (.istore 5, 2) := by decide +kernel
theorem dX10_turnRound_10 : decode cX10_turnRound 10 = .ok (.iload 5, 2) := by decide +kernel
theorem dX10_turnRound_12 : decode cX10_turnRound 12 = .ok (.iload 4, 2) := by decide +kernel
theorem dX10_turnRound_14 : decode cX10_turnRound 14 = .ok (.if_icmp .le 76, 3) := by decide +kernel
theorem dX10_turnRound_17 : decode cX10_turnRound 17 = .ok (.aload_n 0, 1) := by decide +kernel
theorem dX10_turnRound_18 : decode cX10_turnRound 18 = .ok (.getfield 12, 3) := by decide +kernel
theorem dX10_turnRound_21 : decode cX10_turnRound 21 = .ok (.iload 4, 2) := by decide +kernel
theorem dX10_turnRound_23 : decode cX10_turnRound 23 = .ok (.invokevirtual 157, 3) := by decide +kernel
theorem dX10_turnRound_26 : decode cX10_turnRound 26 = .ok (.istore 6, 2) := by decide +kernel
theorem dX10_turnRound_28 : decode cX10_turnRound 28 = .ok (.iload_n 3, 1) := by decide +kernel
theorem dX10_turnRound_29 : decode cX10_turnRound 29 = .ok (.ifCond .ne 17, 3) := by decide +kernel
theorem dX10_turnRound_32 : decode cX10_turnRound 32 = .ok (.iload 6, 2) := by decide +kernel
theorem dX10_turnRound_34 : decode cX10_turnRound 34 = .ok (.aload_n 0, 1) := by decide +kernel
theorem dX10_turnRound_35 : decode cX10_turnRound 35 = .ok (.getfield 12, 3) := by decide +kernel
theorem dX10_turnRound_38 : decode cX10_turnRound 38 = .ok (.iload 5, 2) := by decide +kernel
theorem dX10_turnRound_40 : decode cX10_turnRound 40 = .ok (.invokevirtual 157, 3) := by decide +kernel
theorem dX10_turnRound_43 : decode cX10_turnRound 43 = .ok (.if_icmp .eq 7, 3) := by decide +kernel
theorem dX10_turnRound_46 : decode cX10_turnRound 46 = .ok (.iconst 1, 1) := by decide +kernel
theorem dX10_turnRound_47 : decode cX10_turnRound 47 = .ok (.goto 4, 3) := by decide +kernel
theorem dX10_turnRound_50 : decode cX10_turnRound 50 = .ok (.iconst 0, 1) := by decide +kernel
theorem dX10_turnRound_51 : decode cX10_turnRound 51 = .ok (.istore_n 3, 1) := by decide +kernel
theorem dX10_turnRound_52 : decode cX10_turnRound 52 = .ok (.aload_n 0, 1) := by decide +kernel
theorem dX10_turnRound_53 : decode cX10_turnRound 53 = .ok (.getfield 12, 3) := by decide +kernel
theorem dX10_turnRound_56 : decode cX10_turnRound 56 = .ok (.iload 4, 2) := by decide +kernel
theorem dX10_turnRound_58 : decode cX10_turnRound 58 = .ok (.aload_n 0, 1) := by decide +kernel
theorem dX10_turnRound_59 : decode cX10_turnRound 59 = .ok (.getfield 12, 3) := by decide +kernel
theorem dX10_turnRound_62 : decode cX10_turnRound 62 = .ok (.iload 5, 2) := by decide +kernel
theorem dX10_turnRound_64 : decode cX10_turnRound 64 = .ok (.invokevirtual 157, 3) := by decide +kernel
theorem dX10_turnRound_67 : decode cX10_turnRound 67 = .ok (.invokevirtual 160, 3) := by decide +kernel
theorem dX10_turnRound_70 : decode cX10_turnRound 70 = .ok (.aload_n 0, 1) := by decide +kernel
theorem dX10_turnRound_71 : decode cX10_turnRound 71 = .ok (.getfield 12, 3) := by decide +kernel
theorem dX10_turnRound_74 : decode cX10_turnRound 74 = .ok (.iload 5, 2) := by decide +kernel
theorem dX10_turnRound_76 : decode cX10_turnRound 76 = .ok (.iload 6, 2) := by decide +kernel
theorem dX10_turnRound_78 : decode cX10_turnRound 78 = .ok (.invokevirtual 160, 3) := by decide +kernel
theorem dX10_turnRound_81 : decode cX10_turnRound 81 = .ok (.iinc 4 1, 3) := by decide +kernel
theorem dX10_turnRound_84 : decode cX10_turnRound 84 = .ok (.iinc 5 (-1), 3) := by decide +kernel
theorem dX10_turnRound_87 : decode cX10_turnRound 87 = .ok (.goto (-77), 3) := by decide +kernel
theorem dX10_turnRound_90 : decode cX10_turnRound 90 = .ok (.iload_n 3, 1) := by decide +kernel
theorem dX10_turnRound_91 : decode cX10_turnRound 91 = .ok (.ifCond .eq 7, 3) := by decide +kernel
theorem dX10_turnRound_94 : decode cX10_turnRound 94 = .ok (.iconst 1, 1) := by decide +kernel
theorem dX10_turnRound_95 : decode cX10_turnRound 95 = .ok (.goto 4, 3) := by decide +kernel
theorem dX10_turnRound_98 : decode cX10_turnRound 98 = .ok (.iconst 0, 1) := by decide +kernel
theorem dX10_turnRound_99 : decode cX10_turnRound 99 = .ok (.ireturn, 1) := by decide +kernel
theorem dX10_fillClipboard_0 : decode cX10_fillClipboard 0 = .ok (.aload_n 0, 1) := by decide +kernel
theorem dX10_fillClipboard_1 : decode cX10_fillClipboard 1 = .ok (.getfield 25, 3) := by decide +kernel
theorem dX10_fillClipboard_4 : decode cX10_fillClipboard 4 = .ok (.aload_n 0, 1) := by decide +kernel
theorem dX10_fillClipboard_5 : decode cX10_fillClipboard 5 = .ok (.getfield 12, 3) := by decide +kernel
theorem dX10_fillClipboard_8 : decode cX10_fillClipboard 8 = .ok (.iload_n 1, 1) := by decide +kernel
theorem dX10_fillClipboard_9 : decode cX10_fillClipboard 9 = .ok (.iload_n 2, 1) := by decide +kernel
theorem dX10_fillClipboard_10 : decode cX10_fillClipboard 10 = .ok (.invokevirtual 181, 3) := by decide +kernel
theorem dX10_fillClipboard_13 : decode cX10_fillClipboard 13 = .ok (.aload_n 0, 1) := by decide +kernel
theorem dX10_fillClipboard_14 : decode cX10_fillClipboard 14 = .ok (.getfield 25, 3) := by decide +kernel
theorem dX10_fillClipboard_17 : decode cX10_fillClipboard 17 = .ok (.invokevirtual 104, 3) := by decide +kernel
theorem dX10_fillClipboard_20 : decode cX10_fillClipboard 20 = .ok (.ireturn, 1) := by decide +kernel
theorem dX10_shiftLevels_0 : decode cX10_shiftLevels 0 = .ok (.iconst 0, 1) := by decide +kernel
theorem dX10_shiftLevels_1 : decode cX10_shiftLevels 1 = .ok (.istore 4, 2) := by decide +kernel
theorem dX10_shiftLevels_3 : decode cX10_shiftLevels 3 = .ok (.iload_n 1, 1) := by decide +kernel
theorem dX10_shiftLevels_4 : decode cX10_shiftLevels 4 = .ok (.istore 5, 2) := by decide +kernel
theorem dX10_shiftLevels_6 : decode cX10_shiftLevels 6 = .ok (.iload 5, 2) := by decide +kernel
theorem dX10_shiftLevels_8 : decode cX10_shiftLevels 8 = .ok (.iload_n 2, 1) := by decide +kernel
theorem dX10_shiftLevels_9 : decode cX10_shiftLevels 9 = .ok (.if_icmp .ge 65, 3) := by decide +kernel
theorem dX10_shiftLevels_12 : decode cX10_shiftLevels 12 = .ok (.aload_n 0, 1) := by decide +kernel
theorem dX10_shiftLevels_13 : decode cX10_shiftLevels 13 = .ok (.getfield 12, 3) := by decide +kernel
theorem dX10_shiftLevels_16 : decode cX10_shiftLevels 16 = .ok (.iload 5, 2) := by decide +kernel
theorem dX10_shiftLevels_18 : decode cX10_shiftLevels 18 = .ok (.invokevirtual 157, 3) := by decide +kernel
theorem dX10_shiftLevels_21 : decode cX10_shiftLevels 21 = .ok (.istore 6, 2) := by decide +kernel
theorem dX10_shiftLevels_23 : decode cX10_shiftLevels 23 = .ok (.iload 6, 2) := by decide +kernel
theorem dX10_shiftLevels_25 : decode cX10_shiftLevels 25 = .ok (.ifCond .ne 7, 3) := by decide +kernel
theorem dX10_shiftLevels_28 : decode cX10_shiftLevels 28 = .ok (.iconst 0, 1) := by decide +kernel
theorem dX10_shiftLevels_29 : decode cX10_shiftLevels 29 = .ok (.goto 16, 3) := by decide +kernel
theorem dX10_shiftLevels_32 : decode cX10_shiftLevels 32 = .ok (.iconst 1, 1) := by decide +kernel
theorem dX10_shiftLevels_33 : decode cX10_shiftLevels 33 = .ok (.bipush 9, 2) := by decide +kernel
theorem dX10_shiftLevels_35 : decode cX10_shiftLevels 35 = .ok (.iload 6, 2) := by decide +kernel
theorem dX10_shiftLevels_37 : decode cX10_shiftLevels 37 = .ok (.iload_n 3, 1) := by decide +kernel
theorem dX10_shiftLevels_38 : decode cX10_shiftLevels 38 = .ok (.iadd, 1) := by decide +kernel
theorem dX10_shiftLevels_39 : decode cX10_shiftLevels 39 = .ok (.invokestatic 185, 3) := by decide +kernel
theorem dX10_shiftLevels_42 : decode cX10_shiftLevels 42 = .ok (.invokestatic 190, 3) := by decide +kernel
theorem dX10_shiftLevels_45 : decode cX10_shiftLevels 45 = .ok (.istore 7, 2) := by decide +kernel
theorem dX10_shiftLevels_47 : decode cX10_shiftLevels 47 = .ok (.iload 7, 2) := by decide +kernel
theorem dX10_shiftLevels_49 : decode cX10_shiftLevels 49 = .ok (.iload 6, 2) := by decide +kernel
theorem dX10_shiftLevels_51 : decode cX10_shiftLevels 51 = .ok (.if_icmp .eq 17, 3) := by decide +kernel
theorem dX10_shiftLevels_54 : decode cX10_shiftLevels 54 = .ok (.aload_n 0, 1) := by decide +kernel
theorem dX10_shiftLevels_55 : decode cX10_shiftLevels 55 = .ok (.getfield 12, 3) := by decide +kernel
theorem dX10_shiftLevels_58 : decode cX10_shiftLevels 58 = .ok (.iload 5, 2) := by decide +kernel
theorem dX10_shiftLevels_60 : decode cX10_shiftLevels 60 = .ok (.iload 7, 2) := by decide +kernel
theorem dX10_shiftLevels_62 : decode cX10_shiftLevels 62 = .ok (.invokevirtual 160, 3) := by decide +kernel
theorem dX10_shiftLevels_65 : decode cX10_shiftLevels 65 = .ok (.iinc 4 1, 3) := by decide +kernel
theorem dX10_shiftLevels_68 : decode cX10_shiftLevels 68 = .ok (.iinc 5 1, 3) := by decide +kernel
theorem dX10_shiftLevels_71 : decode cX10_shiftLevels 71 = .ok (.goto (-65), 3) := by decide +kernel
theorem dX10_shiftLevels_74 : decode cX10_shiftLevels 74 = .ok (.iload 4, 2) := by decide +kernel
theorem dX10_shiftLevels_76 : decode cX10_shiftLevels 76 = .ok (.ireturn, 1) := by decide +kernel
theorem dX10_insertCopies_0 : decode cX10_insertCopies 0 = .ok (.iload_n 2, 1) := by decide +kernel
theorem dX10_insertCopies_1 : decode cX10_insertCopies 1 = .ok (.iload_n 1, 1) := by decide +kernel
theorem dX10_insertCopies_2 : decode cX10_insertCopies 2 = .ok (.isub, 1) := by decide +kernel
theorem dX10_insertCopies_3 : decode cX10_insertCopies 3 = .ok (.istore 4, 2) := by decide +kernel
theorem dX10_insertCopies_5 : decode cX10_insertCopies 5 = .ok (.aload_n 0, 1) := by decide +kernel
theorem dX10_insertCopies_6 : decode cX10_insertCopies 6 = .ok (.iload_n 2, 1) := by decide +kernel
theorem dX10_insertCopies_7 : decode cX10_insertCopies 7 = .ok (.iload 4, 2) := by decide +kernel
theorem dX10_insertCopies_9 : decode cX10_insertCopies 9 = .ok (.iload_n 3, 1) := by decide +kernel
theorem dX10_insertCopies_10 : decode cX10_insertCopies 10 = .ok (.imul, 1) := by decide +kernel
theorem dX10_insertCopies_11 : decode cX10_insertCopies 11 = .ok (.invokevirtual 122, 3) := by decide +kernel
theorem dX10_insertCopies_14 : decode cX10_insertCopies 14 = .ok (.pop, 1) := by decide +kernel
theorem dX10_insertCopies_15 : decode cX10_insertCopies 15 = .ok (.iload_n 2, 1) := by decide +kernel
theorem dX10_insertCopies_16 : decode cX10_insertCopies 16 = .ok (.istore 5, 2) := by decide +kernel
theorem dX10_insertCopies_18 : decode cX10_insertCopies 18 = .ok (.iload 5, 2) := by decide +kernel
theorem dX10_insertCopies_20 : decode cX10_insertCopies 20 = .ok (.iload_n 2, 1) := by decide +kernel
theorem dX10_insertCopies_21 : decode cX10_insertCopies 21 = .ok (.iload 4, 2) := by decide +kernel
theorem dX10_insertCopies_23 : decode cX10_insertCopies 23 = .ok (.iload_n 3, 1) := by decide +kernel
theorem dX10_insertCopies_24 : decode cX10_insertCopies 24 = .ok (.imul, 1) := by decide +kernel
theorem dX10_insertCopies_25 : decode cX10_insertCopies 25 = .ok (.iadd, 1) := by decide +kernel
theorem dX10_insertCopies_26 : decode cX10_insertCopies 26 = .ok (.if_icmp .ge 30, 3) := by decide +kernel
theorem dX10_insertCopies_29 : decode cX10_insertCopies 29 = .ok (.aload_n 0, 1) := by decide +kernel
theorem dX10_insertCopies_30 : decode cX10_insertCopies 30 = .ok (.getfield 12, 3) := by decide +kernel
theorem dX10_insertCopies_33 : decode cX10_insertCopies 33 = .ok (.iload 5, 2) := by decide +kernel
theorem dX10_insertCopies_35 : decode cX10_insertCopies 35 = .ok (.aload_n 0, 1) := by decide +kernel
theorem dX10_insertCopies_36 : decode cX10_insertCopies 36 = .ok (.getfield 12, 3) := by decide +kernel
theorem dX10_insertCopies_39 : decode cX10_insertCopies 39 = .ok (.iload 5, 2) := by decide +kernel
theorem dX10_insertCopies_41 : decode cX10_insertCopies 41 = .ok (.iload 4, 2) := by decide +kernel
theorem dX10_insertCopies_43 : decode cX10_insertCopies 43 = .ok (.isub, 1) := by decide +kernel
theorem dX10_insertCopies_44 : decode cX10_insertCopies 44 = .ok (.invokevirtual 157, 3) := by decide +kernel
theorem dX10_insertCopies_47 : decode cX10_insertCopies 47 = .ok (.invokevirtual 160, 3) := by decide +kernel
theorem dX10_insertCopies_50 : decode cX10_insertCopies 50 = .ok (.iinc 5 1, 3) := by decide +kernel
theorem dX10_insertCopies_53 : decode cX10_insertCopies 53 = .ok (.goto (-35), 3) := by decide +kernel
theorem dX10_insertCopies_56 : decode cX10_insertCopies 56 = .ok (.aload_n 0, 1) := by decide +kernel
theorem dX10_insertCopies_57 : decode cX10_insertCopies 57 = .ok (.getfield 12, 3) := by decide +kernel
theorem dX10_insertCopies_60 : decode cX10_insertCopies 60 = .ok (.invokevirtual 104, 3) := by decide +kernel
theorem dX10_insertCopies_63 : decode cX10_insertCopies 63 = .ok (.ireturn, 1) := by decide +kernel
theorem dX10_insertClipboard_0 : decode cX10_insertClipboard 0 = .ok (.aload_n 0, 1) := by decide +kernel
theorem dX10_insertClipboard_1 : decode cX10_insertClipboard 1 = .ok (.iload_n 1, 1) := by decide +kernel
theorem dX10_insertClipboard_2 : decode cX10_insertClipboard 2 = .ok (.aload_n 0, 1) := by decide +kernel
theorem dX10_insertClipboard_3 : decode cX10_insertClipboard 3 = .ok (.getfield 25, 3) := by decide +kernel
theorem dX10_insertClipboard_6 : decode cX10_insertClipboard 6 = .ok (.invokevirtual 104, 3) := by decide +kernel
theorem dX10_insertClipboard_9 : decode cX10_insertClipboard 9 = .ok (.invokevirtual 122, 3) := by decide +kernel
theorem dX10_insertClipboard_12 : decode cX10_insertClipboard 12 = .ok (.pop, 1) := by decide +kernel
theorem dX10_insertClipboard_13 : decode cX10_insertClipboard 13 = .ok (.iconst 0, 1) := by decide +kernel
theorem dX10_insertClipboard_14 : decode cX10_insertClipboard 14 = .ok (.istore_n 2, 1) := by decide +kernel
theorem dX10_insertClipboard_15 : decode cX10_insertClipboard 15 = .ok (.iload_n 2, 1) := by decide +kernel
theorem dX10_insertClipboard_16 : decode cX10_insertClipboard 16 = .ok (.aload_n 0, 1) := by decide +kernel
theorem dX10_insertClipboard_17 : decode cX10_insertClipboard 17 = .ok (.getfield 25, 3) := by decide +kernel
theorem dX10_insertClipboard_20 : decode cX10_insertClipboard 20 = .ok (.invokevirtual 104, 3) := by decide +kernel
theorem dX10_insertClipboard_23 : decode cX10_insertClipboard 23 = .ok (.if_icmp .ge 27, 3) := by decide +kernel
theorem dX10_insertClipboard_26 : decode cX10_insertClipboard 26 = .ok (.aload_n 0, 1) := by decide +kernel
theorem dX10_insertClipboard_27 : decode cX10_insertClipboard 27 = .ok (.getfield 12, 3) := by decide +kernel
theorem dX10_insertClipboard_30 : decode cX10_insertClipboard 30 = .ok (.iload_n 1, 1) := by decide +kernel
theorem dX10_insertClipboard_31 : decode cX10_insertClipboard 31 = .ok (.iload_n 2, 1) := by decide +kernel
theorem dX10_insertClipboard_32 : decode cX10_insertClipboard 32 = .ok (.iadd, 1) := by decide +kernel
theorem dX10_insertClipboard_33 : decode cX10_insertClipboard 33 = .ok (.aload_n 0, 1) := by decide +kernel
theorem dX10_insertClipboard_34 : decode cX10_insertClipboard 34 = .ok (.getfield 25, 3) := by decide +kernel
theorem dX10_insertClipboard_37 : decode cX10_insertClipboard 37 = .ok (.iload_n 2, 1) := by decide +kernel
theorem dX10_insertClipboard_38 : decode cX10_insertClipboard 38 = .ok (.invokevirtual 157, 3) := by decide +kernel
theorem dX10_insertClipboard_41 : decode cX10_insertClipboard 41 = .ok (.invokevirtual 160, 3) := by decide +kernel
theorem dX10_insertClipboard_44 : decode cX10_insertClipboard 44 = .ok (.iinc 2 1, 3) := by decide +kernel
theorem dX10_insertClipboard_47 : decode cX10_insertClipboard 47 = .ok (.goto (-32), 3) := by decide +kernel
theorem dX10_insertClipboard_50 : decode cX10_insertClipboard 50 = .ok (.aload_n 0, 1) := by decide +kernel
theorem dX10_insertClipboard_51 : decode cX10_insertClipboard 51 = .ok (.getfield 12, 3) := by decide +kernel
theorem dX10_insertClipboard_54 : decode cX10_insertClipboard 54 = .ok (.invokevirtual 104, 3) := by decide +kernel
theorem dX10_insertClipboard_57 : decode cX10_insertClipboard 57 = .ok (.ireturn, 1) := by decide +kernel
theorem dX10_mark_0 : decode cX10_mark 0 = .ok (.aload_n 0, 1) := by decide +kernel
theorem dX10_mark_1 : decode cX10_mark 1 = .ok (.getfield 21, 3) := by decide +kernel
theorem dX10_mark_4 : decode cX10_mark 4 = .ok (.iload_n 1, 1) := by decide +kernel
theorem dX10_mark_5 : decode cX10_mark 5 = .ok (.invokevirtual 110, 3) := by decide +kernel
theorem dX10_mark_8 : decode cX10_mark 8 = .ok (.iconst (-1), 1) := by decide +kernel
theorem dX10_mark_9 : decode cX10_mark 9 = .ok (.if_icmp .eq 5, 3) := by decide +kernel
theorem dX10_mark_12 : decode cX10_mark 12 = .ok (.iconst 0, 1) := by decide +kernel
theorem dX10_mark_13 : decode cX10_mark 13 = .ok (.ireturn, 1) := by decide +kernel
theorem dX10_mark_14 : decode cX10_mark 14 = .ok (.aload_n 0, 1) := by decide +kernel
theorem dX10_mark_15 : decode cX10_mark 15 = .ok (.getfield 21, 3) := by decide +kernel
theorem dX10_mark_18 : decode cX10_mark 18 = .ok (.iload_n 1, 1) := by decide +kernel
theorem dX10_mark_19 : decode cX10_mark 19 = .ok (.invokevirtual 193, 3) := by decide +kernel
theorem dX10_mark_22 : decode cX10_mark 22 = .ok (.iconst 1, 1) := by decide +kernel
theorem dX10_mark_23 : decode cX10_mark 23 = .ok (.ireturn, 1) := by decide +kernel
theorem dX10_unmark_0 : decode cX10_unmark 0 = .ok (.aload_n 0, 1) := by decide +kernel
theorem dX10_unmark_1 : decode cX10_unmark 1 = .ok (.getfield 21, 3) := by decide +kernel
theorem dX10_unmark_4 : decode cX10_unmark 4 = .ok (.iload_n 1, 1) := by decide +kernel
theorem dX10_unmark_5 : decode cX10_unmark 5 = .ok (.invokevirtual 110, 3) := by decide +kernel
theorem dX10_unmark_8 : decode cX10_unmark 8 = .ok (.istore_n 2, 1) := by decide +kernel
theorem dX10_unmark_9 : decode cX10_unmark 9 = .ok (.iload_n 2, 1) := by decide +kernel
theorem dX10_unmark_10 : decode cX10_unmark 10 = .ok (.iconst (-1), 1) := by decide +kernel
theorem dX10_unmark_11 : decode cX10_unmark 11 = .ok (.if_icmp .ne 5, 3) := by decide +kernel
theorem dX10_unmark_14 : decode cX10_unmark 14 = .ok (.iconst 0, 1) := by decide +kernel
theorem dX10_unmark_15 : decode cX10_unmark 15 = .ok (.ireturn, 1) := by decide +kernel
theorem dX10_unmark_16 : decode cX10_unmark 16 = .ok (.aload_n 0, 1) := by decide +kernel
theorem dX10_unmark_17 : decode cX10_unmark 17 = .ok (.getfield 21, 3) := by decide +kernel
theorem dX10_unmark_20 : decode cX10_unmark 20 = .ok (.iload_n 2, 1) := by decide +kernel
theorem dX10_unmark_21 : decode cX10_unmark 21 = .ok (.invokevirtual 196, 3) := by decide +kernel
theorem dX10_unmark_24 : decode cX10_unmark 24 = .ok (.iconst 1, 1) := by decide +kernel
theorem dX10_unmark_25 : decode cX10_unmark 25 = .ok (.ireturn, 1) := by decide +kernel
theorem dX10_hasBar_0 : decode cX10_hasBar 0 = .ok (.iload_n 1, 1) := by decide +kernel
theorem dX10_hasBar_1 : decode cX10_hasBar 1 = .ok (.ifCond .lt 18, 3) := by decide +kernel
theorem dX10_hasBar_4 : decode cX10_hasBar 4 = .ok (.iload_n 1, 1) := by decide +kernel
theorem dX10_hasBar_5 : decode cX10_hasBar 5 = .ok (.aload_n 0, 1) := by decide +kernel
theorem dX10_hasBar_6 : decode cX10_hasBar 6 = .ok (.getfield 21, 3) := by decide +kernel
theorem dX10_hasBar_9 : decode cX10_hasBar 9 = .ok (.invokevirtual 199, 3) := by decide +kernel
theorem dX10_hasBar_12 : decode cX10_hasBar 12 = .ok (.if_icmp .gt 7, 3) := by decide +kernel
theorem dX10_hasBar_15 : decode cX10_hasBar 15 = .ok (.iconst 1, 1) := by decide +kernel
theorem dX10_hasBar_16 : decode cX10_hasBar 16 = .ok (.goto 4, 3) := by decide +kernel
theorem dX10_hasBar_19 : decode cX10_hasBar 19 = .ok (.iconst 0, 1) := by decide +kernel
theorem dX10_hasBar_20 : decode cX10_hasBar 20 = .ok (.ireturn, 1) := by decide +kernel
theorem dX10_startOfBar_0 : decode cX10_startOfBar 0 = .ok (.iload_n 1, 1) := by decide +kernel
theorem dX10_startOfBar_1 : decode cX10_startOfBar 1 = .ok (.ifCond .ne 7, 3) := by decide +kernel
theorem dX10_startOfBar_4 : decode cX10_startOfBar 4 = .ok (.iconst 0, 1) := by decide +kernel
theorem dX10_startOfBar_5 : decode cX10_startOfBar 5 = .ok (.goto 13, 3) := by decide +kernel
theorem dX10_startOfBar_8 : decode cX10_startOfBar 8 = .ok (.aload_n 0, 1) := by decide +kernel
theorem dX10_startOfBar_9 : decode cX10_startOfBar 9 = .ok (.getfield 21, 3) := by decide +kernel
theorem dX10_startOfBar_12 : decode cX10_startOfBar 12 = .ok (.iload_n 1, 1) := by decide +kernel
theorem dX10_startOfBar_13 : decode cX10_startOfBar 13 = .ok (.iconst 1, 1) := by decide +kernel
theorem dX10_startOfBar_14 : decode cX10_startOfBar 14 = .ok (.isub, 1) := by decide +kernel
theorem dX10_startOfBar_15 : decode cX10_startOfBar 15 = .ok (.invokevirtual 202, 3) := by decide +kernel
theorem dX10_startOfBar_18 : decode cX10_startOfBar 18 = .ok (.ireturn, 1) := by decide +kernel
theorem dX10_endOfBar_0 : decode cX10_endOfBar 0 = .ok (.iload_n 1, 1) := by decide +kernel
theorem dX10_endOfBar_1 : decode cX10_endOfBar 1 = .ok (.aload_n 0, 1) := by decide +kernel
theorem dX10_endOfBar_2 : decode cX10_endOfBar 2 = .ok (.getfield 21, 3) := by decide +kernel
theorem dX10_endOfBar_5 : decode cX10_endOfBar 5 = .ok (.invokevirtual 199, 3) := by decide +kernel
theorem dX10_endOfBar_8 : decode cX10_endOfBar 8 = .ok (.if_icmp .ge 14, 3) := by decide +kernel
theorem dX10_endOfBar_11 : decode cX10_endOfBar 11 = .ok (.aload_n 0, 1) := by decide +kernel
theorem dX10_endOfBar_12 : decode cX10_endOfBar 12 = .ok (.getfield 21, 3) := by decide +kernel
theorem dX10_endOfBar_15 : decode cX10_endOfBar 15 = .ok (.iload_n 1, 1) := by decide +kernel
theorem dX10_endOfBar_16 : decode cX10_endOfBar 16 = .ok (.invokevirtual 202, 3) := by decide +kernel
theorem dX10_endOfBar_19 : decode cX10_endOfBar 19 = .ok (.goto 10, 3) := by decide +kernel
theorem dX10_endOfBar_22 : decode cX10_endOfBar 22 = .ok (.aload_n 0, 1) := by decide +kernel
theorem dX10_endOfBar_23 : decode cX10_endOfBar 23 = .ok (.getfield 12, 3) := by decide +kernel
theorem dX10_endOfBar_26 : decode cX10_endOfBar 26 = .ok (.invokevirtual 104, 3) := by decide +kernel
theorem dX10_endOfBar_29 : decode cX10_endOfBar 29 = .ok (.ireturn, 1) := by decide +kernel
theorem dX10_lengthOfBar_0 : decode cX10_lengthOfBar 0 = .ok (.aload_n 0, 1) := by decide +kernel
theorem dX10_lengthOfBar_1 : decode cX10_lengthOfBar 1 = .ok (.iload_n 1, 1) := by decide +kernel
theorem dX10_lengthOfBar_2 : decode cX10_lengthOfBar 2 = .ok (.invokevirtual 203, 3) := by decide +kernel
theorem dX10_lengthOfBar_5 : decode cX10_lengthOfBar 5 = .ok (.aload_n 0, 1) := by decide +kernel
theorem dX10_lengthOfBar_6 : decode cX10_lengthOfBar 6 = .ok (.iload_n 1, 1) := by decide +kernel
theorem dX10_lengthOfBar_7 : decode cX10_lengthOfBar 7 = .ok (.invokevirtual 206, 3) := by decide +kernel
theorem dX10_lengthOfBar_10 : decode cX10_lengthOfBar 10 = .ok (.isub, 1) := by decide +kernel
theorem dX10_lengthOfBar_11 : decode cX10_lengthOfBar 11 = .ok (.ireturn, 1) := by decide +kernel
theorem dX10_sumOfBar_0 : decode cX10_sumOfBar 0 = .ok (.aload_n 0, 1) := by decide +kernel
theorem dX10_sumOfBar_1 : decode cX10_sumOfBar 1 = .ok (.getfield 12, 3) := by decide +kernel
theorem dX10_sumOfBar_4 : decode cX10_sumOfBar 4 = .ok (.aload_n 0, 1) := by decide +kernel
theorem dX10_sumOfBar_5 : decode cX10_sumOfBar 5 = .ok (.iload_n 1, 1) := by decide +kernel
theorem dX10_sumOfBar_6 : decode cX10_sumOfBar 6 = .ok (.invokevirtual 206, 3) := by decide +kernel
theorem dX10_sumOfBar_9 : decode cX10_sumOfBar 9 = .ok (.aload_n 0, 1) := by decide +kernel
theorem dX10_sumOfBar_10 : decode cX10_sumOfBar 10 = .ok (.iload_n 1, 1) := by decide +kernel
theorem dX10_sumOfBar_11 : decode cX10_sumOfBar 11 = .ok (.invokevirtual 203, 3) := by decide +kernel
theorem dX10_sumOfBar_14 : decode cX10_sumOfBar 14 = .ok (.invokevirtual 209, 3) := by decide +kernel
theorem dX10_sumOfBar_17 : decode cX10_sumOfBar 17 = .ok (.ireturn, 1) := by decide +kernel
theorem dX12_init_0 : decode cX12_init 0 = .ok (.aload_n 0, 1) := by decide +kernel
theorem dX12_init_1 : decode cX12_init 1 = .ok (.invokespecial 3, 3) := by decide +kernel
theorem dX12_init_4 : decode cX12_init 4 = .ok (.aload_n 0, 1) := by decide +kernel
theorem dX12_init_5 : decode cX12_init 5 = .ok (.new 9, 3) := by decide +kernel
theorem dX12_init_8 : decode cX12_init 8 = .ok (.dup, 1) := by decide +kernel
theorem dX12_init_9 : decode cX12_init 9 = .ok (.invokespecial 11, 3) := by decide +kernel
theorem dX12_init_12 : decode cX12_init 12 = .ok (.putfield 12, 3) := by decide +kernel
theorem dX12_init_15 : decode cX12_init 15 = .ok (.aload_n 0, 1) := by decide +kernel
theorem dX12_init_16 : decode cX12_init 16 = .ok (.new 9, 3) := by decide +kernel
theorem dX12_init_19 : decode cX12_init 19 = .ok (.dup, 1) := by decide +kernel
theorem dX12_init_20 : decode cX12_init 20 = .ok (.invokespecial 11, 3) := by decide +kernel
theorem dX12_init_23 : decode cX12_init 23 = .ok (.putfield 16, 3) := by decide +kernel
theorem dX12_init_26 : decode cX12_init 26 = .ok (.aload_n 0, 1) := by decide +kernel
theorem dX12_init_27 : decode cX12_init 27 = .ok (.new 9, 3) := by decide +kernel
theorem dX12_init_30 : decode cX12_init 30 = .ok (.dup, 1) := by decide +kernel
theorem dX12_init_31 : decode cX12_init 31 = .ok (.invokespecial 11, 3) := by decide +kernel
theorem dX12_init_34 : decode cX12_init 34 = .ok (.putfield 19, 3) := by decide +kernel
theorem dX12_init_37 : decode cX12_init 37 = .ok (.aload_n 0, 1) := by decide +kernel
theorem dX12_init_38 : decode cX12_init 38 = .ok (.new 22, 3) := by decide +kernel
theorem dX12_init_41 : decode cX12_init 41 = .ok (.dup, 1) := by decide +kernel
theorem dX12_init_42 : decode cX12_init 42 = .ok (.invokespecial 24, 3) := by decide +kernel
theorem dX12_init_45 : decode cX12_init 45 = .ok (.putfield 25, 3) := by decide +kernel
theorem dX12_init_48 : decode cX12_init 48 = .ok (.aload_n 0, 1) := by decide +kernel
theorem dX12_init_49 : decode cX12_init 49 = .ok (.new 29, 3) := by decide +kernel
theorem dX12_init_52 : decode cX12_init 52 = .ok (.dup, 1) := by decide +kernel
theorem dX12_init_53 : decode cX12_init 53 = .ok (.invokespecial 31, 3) := by decide +kernel
theorem dX12_init_56 : decode cX12_init 56 = .ok (.putfield 32, 3) := by decide +kernel
theorem dX12_init_59 : decode cX12_init 59 = .ok (.aload_n 0, 1) := by decide +kernel
theorem dX12_init_60 : decode cX12_init 60 = .ok (.sipush 200, 3) := by decide +kernel
theorem dX12_init_63 : decode cX12_init 63 = .ok (.newarray .int, 2) := by decide +kernel
theorem dX12_init_65 : decode cX12_init 65 = .ok (.putfield 36, 3) := by decide +kernel
theorem dX12_init_68 : decode cX12_init 68 = .ok (.aload_n 0, 1) := by decide +kernel
theorem dX12_init_69 : decode cX12_init 69 = .ok (.new 40, 3) := by decide +kernel
theorem dX12_init_72 : decode cX12_init 72 = .ok (.dup, 1) := by decide +kernel
theorem dX12_init_73 : decode cX12_init 73 = .ok (.invokespecial 42, 3) := by decide +kernel
theorem dX12_init_76 : decode cX12_init 76 = .ok (.putfield 43, 3) := by decide +kernel
theorem dX12_init_79 : decode cX12_init 79 = .ok (.aload_n 0, 1) := by decide +kernel
theorem dX12_init_80 : decode cX12_init 80 = .ok (.new 47, 3) := by decide +kernel
theorem dX12_init_83 : decode cX12_init 83 = .ok (.dup, 1) := by decide +kernel
theorem dX12_init_84 : decode cX12_init 84 = .ok (.invokespecial 49, 3) := by decide +kernel
theorem dX12_init_87 : decode cX12_init 87 = .ok (.putfield 50, 3) := by decide +kernel
theorem dX12_init_90 : decode cX12_init 90 = .ok (.aload_n 0, 1) := by decide +kernel
theorem dX12_init_91 : decode cX12_init 91 = .ok (.new 54, 3) := by decide +kernel
theorem dX12_init_94 : decode cX12_init 94 = .ok (.dup, 1) := by decide +kernel
theorem dX12_init_95 : decode cX12_init 95 = .ok (.invokespecial 56, 3) := by decide +kernel
theorem dX12_init_98 : decode cX12_init 98 = .ok (.putfield 57, 3) := by decide +kernel
theorem dX12_init_101 : decode cX12_init 101 = .ok (.aload_n 0, 1) := by decide +kernel
theorem dX12_init_102 : decode cX12_init 102 = .ok (.new 61, 3) := by decide +kernel
theorem dX12_init_105 : decode cX12_init 105 = .ok (.dup, 1) := by decide +kernel
theorem dX12_init_106 : decode cX12_init 106 = .ok (.invokespecial 63, 3) := by decide +kernel
theorem dX12_init_109 : decode cX12_init 109 = .ok (.putfield 64, 3) := by decide +kernel
theorem dX12_init_112 : decode cX12_init 112 = .ok (.aload_n 0, 1) := by decide +kernel
theorem dX12_init_113 : decode cX12_init 113 = .ok (.iconst (-1), 1) := by decide +kernel
theorem dX12_init_114 : decode cX12_init 114 = .ok (.putfield 68, 3) := by decide +kernel
theorem dX12_init_117 : decode cX12_init 117 = .ok (.aload_n 0, 1) := by decide +kernel
theorem dX12_init_118 : decode cX12_init 118 = .ok (.iconst (-1), 1) := by decide +kernel
theorem dX12_init_119 : decode cX12_init 119 = .ok (.putfield 72, 3) := by decide +kernel
theorem dX12_init_122 : decode cX12_init 122 = .ok (.return_, 1) := by decide +kernel
theorem dX12_pass_0 : decode cX12_pass 0 = .ok (.aload_n 0, 1) := by decide +kernel
theorem dX12_pass_1 : decode cX12_pass 1 = .ok (.getstatic 75, 3) := by decide +kernel
theorem dX12_pass_4 : decode cX12_pass 4 = .ok (.iload_n 1, 1) := by decide +kernel
theorem dX12_pass_5 : decode cX12_pass 5 = .ok (.iload_n 2, 1) := by decide +kernel
theorem dX12_pass_6 : decode cX12_pass 6 = .ok (.iload_n 3, 1) := by decide +kernel
theorem dX12_pass_7 : decode cX12_pass 7 = .ok (.invokevirtual 81, 3) := by decide +kernel
theorem dX12_pass_10 : decode cX12_pass 10 = .ok (.ireturn, 1) := by decide +kernel
theorem dX12_insertRest_0 : decode cX12_insertRest 0 = .ok (.aload_n 0, 1) := by decide +kernel
theorem dX12_insertRest_1 : decode cX12_insertRest 1 = .ok (.getstatic 85, 3) := by decide +kernel
theorem dX12_insertRest_4 : decode cX12_insertRest 4 = .ok (.iload_n 1, 1) := by decide +kernel
theorem dX12_insertRest_5 : decode cX12_insertRest 5 = .ok (.iload_n 2, 1) := by decide +kernel
theorem dX12_insertRest_6 : decode cX12_insertRest 6 = .ok (.iconst 0, 1) := by decide +kernel
theorem dX12_insertRest_7 : decode cX12_insertRest 7 = .ok (.invokevirtual 81, 3) := by decide +kernel
theorem dX12_insertRest_10 : decode cX12_insertRest 10 = .ok (.ireturn, 1) := by decide +kernel
theorem dX12_remove_0 : decode cX12_remove 0 = .ok (.aload_n 0, 1) := by decide +kernel
theorem dX12_remove_1 : decode cX12_remove 1 = .ok (.getstatic 88, 3) := by decide +kernel
theorem dX12_remove_4 : decode cX12_remove 4 = .ok (.iload_n 1, 1) := by decide +kernel
theorem dX12_remove_5 : decode cX12_remove 5 = .ok (.iload_n 2, 1) := by decide +kernel
theorem dX12_remove_6 : decode cX12_remove 6 = .ok (.iconst 0, 1) := by decide +kernel
theorem dX12_remove_7 : decode cX12_remove 7 = .ok (.invokevirtual 81, 3) := by decide +kernel
theorem dX12_remove_10 : decode cX12_remove 10 = .ok (.ireturn, 1) := by decide +kernel
theorem dX12_mute_0 : decode cX12_mute 0 = .ok (.aload_n 0, 1) := by decide +kernel
theorem dX12_mute_1 : decode cX12_mute 1 = .ok (.getstatic 91, 3) := by decide +kernel
theorem dX12_mute_4 : decode cX12_mute 4 = .ok (.iload_n 1, 1) := by decide +kernel
theorem dX12_mute_5 : decode cX12_mute 5 = .ok (.iload_n 2, 1) := by decide +kernel
theorem dX12_mute_6 : decode cX12_mute 6 = .ok (.iconst 0, 1) := by decide +kernel
theorem dX12_mute_7 : decode cX12_mute 7 = .ok (.invokevirtual 81, 3) := by decide +kernel
theorem dX12_mute_10 : decode cX12_mute 10 = .ok (.ireturn, 1) := by decide +kernel
theorem dX12_modulate_0 : decode cX12_modulate 0 = .ok (.aload_n 0, 1) := by decide +kernel
theorem dX12_modulate_1 : decode cX12_modulate 1 = .ok (.getstatic 94, 3) := by decide +kernel
theorem dX12_modulate_4 : decode cX12_modulate 4 = .ok (.iload_n 1, 1) := by decide +kernel
theorem dX12_modulate_5 : decode cX12_modulate 5 = .ok (.iload_n 2, 1) := by decide +kernel
theorem dX12_modulate_6 : decode cX12_modulate 6 = .ok (.iload_n 3, 1) := by decide +kernel
theorem dX12_modulate_7 : decode cX12_modulate 7 = .ok (.invokevirtual 81, 3) := by decide +kernel
theorem dX12_modulate_10 : decode cX12_modulate 10 = .ok (.ireturn, 1) := by decide +kernel
theorem dX12_reverse_0 : decode cX12_reverse 0 = .ok (.aload_n 0, 1) := by decide +kernel
theorem dX12_reverse_1 : decode cX12_reverse 1 = .ok (.getstatic 97, 3) := by decide +kernel
theorem dX12_reverse_4 : decode cX12_reverse 4 = .ok (.iload_n 1, 1) := by decide +kernel
theorem dX12_reverse_5 : decode cX12_reverse 5 = .ok (.iload_n 2, 1) := by decide +kernel
theorem dX12_reverse_6 : decode cX12_reverse 6 = .ok (.iconst 0, 1) := by decide +kernel
theorem dX12_reverse_7 : decode cX12_reverse 7 = .ok (.invokevirtual 81, 3) := by decide +kernel
theorem dX12_reverse_10 : decode cX12_reverse 10 = .ok (.ifCond .eq 7, 3) := by decide +kernel
theorem dX12_reverse_13 : decode cX12_reverse 13 = .ok (.iconst 1, 1) := by decide +kernel
theorem dX12_reverse_14 : decode cX12_reverse 14 = .ok (.goto 4, 3) := by decide +kernel
theorem dX12_reverse_17 : decode cX12_reverse 17 = .ok (.iconst 0, 1) := by decide +kernel
theorem dX12_reverse_18 : decode cX12_reverse 18 = .ok (.ireturn, 1) := by decide +kernel
theorem dX12_repeat_0 : decode cX12_repeat 0 = .ok (.aload_n 0, 1) := by decide +kernel
theorem dX12_repeat_1 : decode cX12_repeat 1 = .ok (.getstatic 100, 3) := by decide +kernel
theorem dX12_repeat_4 : decode cX12_repeat 4 = .ok (.iload_n 1, 1) := by decide +kernel
