theorem dDu_init_0 : decode bDu_init 0 = .ok (.aload_n 0, 1) := by decide +kernel
theorem dDu_init_1 : decode bDu_init 1 = .ok (.invokespecial 1, 3) := by decide +kernel
theorem dDu_init_4 : decode bDu_init 4 = .ok (.aload_n 0, 1) := by decide +kernel
theorem dDu_init_5 : decode bDu_init 5 = .ok (.bipush 12, 2) := by decide +kernel
theorem dDu_init_7 : decode bDu_init 7 = .ok (.newarray .int, 2) := by decide +kernel
theorem dDu_init_9 : decode bDu_init 9 = .ok (.putfield 9, 3) := by decide +kernel
theorem dDu_init_12 : decode bDu_init 12 = .ok (.aload_n 0, 1) := by decide +kernel
theorem dDu_init_13 : decode bDu_init 13 = .ok (.iconst 0, 1) := by decide +kernel
theorem dDu_init_14 : decode bDu_init 14 = .ok (.putfield 13, 3) := by decide +kernel
theorem dDu_init_17 : decode bDu_init 17 = .ok (.aload_n 0, 1) := by decide +kernel
theorem dDu_init_18 : decode bDu_init 18 = .ok (.bipush 100, 2) := by decide +kernel
theorem dDu_init_20 : decode bDu_init 20 = .ok (.anewarray 17, 3) := by decide +kernel
theorem dDu_init_23 : decode bDu_init 23 = .ok (.putfield 19, 3) := by decide +kernel
theorem dDu_init_26 : decode bDu_init 26 = .ok (.aload_n 0, 1) := by decide +kernel
theorem dDu_init_27 : decode bDu_init 27 = .ok (.iconst 0, 1) := by decide +kernel
theorem dDu_init_28 : decode bDu_init 28 = .ok (.putfield 23, 3) := by decide +kernel
theorem dDu_init_31 : decode bDu_init 31 = .ok (.aload_n 0, 1) := by decide +kernel
theorem dDu_init_32 : decode bDu_init 32 = .ok (.new 26, 3) := by decide +kernel
theorem dDu_init_35 : decode bDu_init 35 = .ok (.dup, 1) := by decide +kernel
theorem dDu_init_36 : decode bDu_init 36 = .ok (.invokespecial 28, 3) := by decide +kernel
theorem dDu_init_39 : decode bDu_init 39 = .ok (.putfield 29, 3) := by decide +kernel
theorem dDu_init_42 : decode bDu_init 42 = .ok (.aload_n 0, 1) := by decide +kernel
theorem dDu_init_43 : decode bDu_init 43 = .ok (.new 33, 3) := by decide +kernel
theorem dDu_init_46 : decode bDu_init 46 = .ok (.dup, 1) := by decide +kernel
theorem dDu_init_47 : decode bDu_init 47 = .ok (.invokespecial 35, 3) := by decide +kernel
theorem dDu_init_50 : decode bDu_init 50 = .ok (.putfield 36, 3) := by decide +kernel
theorem dDu_init_53 : decode bDu_init 53 = .ok (.aload_n 0, 1) := by decide +kernel
theorem dDu_init_54 : decode bDu_init 54 = .ok (.iconst (-1), 1) := by decide +kernel
theorem dDu_init_55 : decode bDu_init 55 = .ok (.putfield 40, 3) := by decide +kernel
theorem dDu_init_58 : decode bDu_init 58 = .ok (.aload_n 0, 1) := by decide +kernel
theorem dDu_init_59 : decode bDu_init 59 = .ok (.iconst (-1), 1) := by decide +kernel
theorem dDu_init_60 : decode bDu_init 60 = .ok (.putfield 43, 3) := by decide +kernel
theorem dDu_init_63 : decode bDu_init 63 = .ok (.aload_n 0, 1) := by decide +kernel
theorem dDu_init_64 : decode bDu_init 64 = .ok (.iconst 0, 1) := by decide +kernel
theorem dDu_init_65 : decode bDu_init 65 = .ok (.putfield 46, 3) := by decide +kernel
theorem dDu_init_68 : decode bDu_init 68 = .ok (.aload_n 0, 1) := by decide +kernel
theorem dDu_init_69 : decode bDu_init 69 = .ok (.iconst (-1), 1) := by decide +kernel
theorem dDu_init_70 : decode bDu_init 70 = .ok (.putfield 49, 3) := by decide +kernel
theorem dDu_init_73 : decode bDu_init 73 = .ok (.aload_n 0, 1) := by decide +kernel
theorem dDu_init_74 : decode bDu_init 74 = .ok (.iconst 0, 1) := by decide +kernel
theorem dDu_init_75 : decode bDu_init 75 = .ok (.putfield 52, 3) := by decide +kernel
theorem dDu_init_78 : decode bDu_init 78 = .ok (.return_, 1) := by decide +kernel
theorem dDu_row_0 : decode bDu_row 0 = .ok (.aload_n 0, 1) := by decide +kernel
theorem dDu_row_1 : decode bDu_row 1 = .ok (.iconst 0, 1) := by decide +kernel
theorem dDu_row_2 : decode bDu_row 2 = .ok (.iload_n 1, 1) := by decide +kernel
theorem dDu_row_3 : decode bDu_row 3 = .ok (.invokevirtual 85, 3) := by decide +kernel
theorem dDu_row_6 : decode bDu_row 6 = .ok (.astore 5, 2) := by decide +kernel
theorem dDu_row_8 : decode bDu_row 8 = .ok (.aload 5, 2) := by decide +kernel
theorem dDu_row_10 : decode bDu_row 10 = .ok (.ifnull 18, 3) := by decide +kernel
theorem dDu_row_13 : decode bDu_row 13 = .ok (.aload_n 0, 1) := by decide +kernel
theorem dDu_row_14 : decode bDu_row 14 = .ok (.iload_n 2, 1) := by decide +kernel
theorem dDu_row_15 : decode bDu_row 15 = .ok (.invokevirtual 89, 3) := by decide +kernel
theorem dDu_row_18 : decode bDu_row 18 = .ok (.ifCond .eq 10, 3) := by decide +kernel
theorem dDu_row_21 : decode bDu_row 21 = .ok (.lload_n 3, 1) := by decide +kernel
theorem dDu_row_22 : decode bDu_row 22 = .ok (.invokestatic 92, 3) := by decide +kernel
theorem dDu_row_25 : decode bDu_row 25 = .ok (.ifCond .ne 5, 3) := by decide +kernel
theorem dDu_row_28 : decode bDu_row 28 = .ok (.iconst 0, 1) := by decide +kernel
theorem dDu_row_29 : decode bDu_row 29 = .ok (.ireturn, 1) := by decide +kernel
theorem dDu_row_30 : decode bDu_row 30 = .ok (.aload 5, 2) := by decide +kernel
theorem dDu_row_32 : decode bDu_row 32 = .ok (.iload_n 2, 1) := by decide +kernel
theorem dDu_row_33 : decode bDu_row 33 = .ok (.lload_n 3, 1) := by decide +kernel
theorem dDu_row_34 : decode bDu_row 34 = .ok (.invokevirtual 96, 3) := by decide +kernel
theorem dDu_row_37 : decode bDu_row 37 = .ok (.ireturn, 1) := by decide +kernel
theorem dDu_batchThatIs_0 : decode bDu_batchThatIs 0 = .ok (.aload_n 0, 1) := by decide +kernel
theorem dDu_batchThatIs_1 : decode bDu_batchThatIs 1 = .ok (.iload_n 2, 1) := by decide +kernel
theorem dDu_batchThatIs_2 : decode bDu_batchThatIs 2 = .ok (.invokevirtual 209, 3) := by decide +kernel
theorem dDu_batchThatIs_5 : decode bDu_batchThatIs 5 = .ok (.astore_n 3, 1) := by decide +kernel
theorem dDu_batchThatIs_6 : decode bDu_batchThatIs 6 = .ok (.aload_n 3, 1) := by decide +kernel
theorem dDu_batchThatIs_7 : decode bDu_batchThatIs 7 = .ok (.ifnull 15, 3) := by decide +kernel
theorem dDu_batchThatIs_10 : decode bDu_batchThatIs 10 = .ok (.aload_n 3, 1) := by decide +kernel
theorem dDu_batchThatIs_11 : decode bDu_batchThatIs 11 = .ok (.getfield 215, 3) := by decide +kernel
theorem dDu_batchThatIs_14 : decode bDu_batchThatIs 14 = .ok (.iload_n 1, 1) := by decide +kernel
theorem dDu_batchThatIs_15 : decode bDu_batchThatIs 15 = .ok (.if_icmp .ne 7, 3) := by decide +kernel
theorem dDu_batchThatIs_18 : decode bDu_batchThatIs 18 = .ok (.aload_n 3, 1) := by decide +kernel
theorem dDu_batchThatIs_19 : decode bDu_batchThatIs 19 = .ok (.goto 4, 3) := by decide +kernel
theorem dDu_batchThatIs_22 : decode bDu_batchThatIs 22 = .ok (.aconst_null, 1) := by decide +kernel
theorem dDu_batchThatIs_23 : decode bDu_batchThatIs 23 = .ok (.areturn, 1) := by decide +kernel
theorem dDu_batchAt_0 : decode bDu_batchAt 0 = .ok (.iload_n 1, 1) := by decide +kernel
theorem dDu_batchAt_1 : decode bDu_batchAt 1 = .ok (.ifCond .lt 20, 3) := by decide +kernel
theorem dDu_batchAt_4 : decode bDu_batchAt 4 = .ok (.iload_n 1, 1) := by decide +kernel
theorem dDu_batchAt_5 : decode bDu_batchAt 5 = .ok (.aload_n 0, 1) := by decide +kernel
theorem dDu_batchAt_6 : decode bDu_batchAt 6 = .ok (.getfield 23, 3) := by decide +kernel
theorem dDu_batchAt_9 : decode bDu_batchAt 9 = .ok (.if_icmp .ge 12, 3) := by decide +kernel
theorem dDu_batchAt_12 : decode bDu_batchAt 12 = .ok (.aload_n 0, 1) := by decide +kernel
theorem dDu_batchAt_13 : decode bDu_batchAt 13 = .ok (.getfield 19, 3) := by decide +kernel
theorem dDu_batchAt_16 : decode bDu_batchAt 16 = .ok (.iload_n 1, 1) := by decide +kernel
theorem dDu_batchAt_17 : decode bDu_batchAt 17 = .ok (.aaload, 1) := by decide +kernel
theorem dDu_batchAt_18 : decode bDu_batchAt 18 = .ok (.goto 4, 3) := by decide +kernel
theorem dDu_batchAt_21 : decode bDu_batchAt 21 = .ok (.aconst_null, 1) := by decide +kernel
theorem dDu_batchAt_22 : decode bDu_batchAt 22 = .ok (.areturn, 1) := by decide +kernel
theorem dDu_isAccount_0 : decode bDu_isAccount 0 = .ok (.iload_n 1, 1) := by decide +kernel
theorem dDu_isAccount_1 : decode bDu_isAccount 1 = .ok (.ifCond .lt 15, 3) := by decide +kernel
theorem dDu_isAccount_4 : decode bDu_isAccount 4 = .ok (.iload_n 1, 1) := by decide +kernel
theorem dDu_isAccount_5 : decode bDu_isAccount 5 = .ok (.aload_n 0, 1) := by decide +kernel
theorem dDu_isAccount_6 : decode bDu_isAccount 6 = .ok (.getfield 13, 3) := by decide +kernel
theorem dDu_isAccount_9 : decode bDu_isAccount 9 = .ok (.if_icmp .ge 7, 3) := by decide +kernel
theorem dDu_isAccount_12 : decode bDu_isAccount 12 = .ok (.iconst 1, 1) := by decide +kernel
theorem dDu_isAccount_13 : decode bDu_isAccount 13 = .ok (.goto 4, 3) := by decide +kernel
theorem dDu_isAccount_16 : decode bDu_isAccount 16 = .ok (.iconst 0, 1) := by decide +kernel
theorem dDu_isAccount_17 : decode bDu_isAccount 17 = .ok (.ireturn, 1) := by decide +kernel
theorem dDu_canBeCents_0 : decode bDu_canBeCents 0 = .ok (.lload_n 0, 1) := by decide +kernel
theorem dDu_canBeCents_1 : decode bDu_canBeCents 1 = .ok (.lconst 0, 1) := by decide +kernel
theorem dDu_canBeCents_2 : decode bDu_canBeCents 2 = .ok (.lcmp, 1) := by decide +kernel
theorem dDu_canBeCents_3 : decode bDu_canBeCents 3 = .ok (.ifCond .eq 23, 3) := by decide +kernel
theorem dDu_canBeCents_6 : decode bDu_canBeCents 6 = .ok (.lload_n 0, 1) := by decide +kernel
theorem dDu_canBeCents_7 : decode bDu_canBeCents 7 = .ok (.ldc2_w 229, 3) := by decide +kernel
theorem dDu_canBeCents_10 : decode bDu_canBeCents 10 = .ok (.lcmp, 1) := by decide +kernel
theorem dDu_canBeCents_11 : decode bDu_canBeCents 11 = .ok (.ifCond .lt 15, 3) := by decide +kernel
theorem dDu_canBeCents_14 : decode bDu_canBeCents 14 = .ok (.lload_n 0, 1) := by decide +kernel
theorem dDu_canBeCents_15 : decode bDu_canBeCents 15 = .ok (.ldc2_w 231, 3) := by decide +kernel
theorem dDu_canBeCents_18 : decode bDu_canBeCents 18 = .ok (.lcmp, 1) := by decide +kernel
theorem dDu_canBeCents_19 : decode bDu_canBeCents 19 = .ok (.ifCond .gt 7, 3) := by decide +kernel
theorem dDu_canBeCents_22 : decode bDu_canBeCents 22 = .ok (.iconst 1, 1) := by decide +kernel
theorem dDu_canBeCents_23 : decode bDu_canBeCents 23 = .ok (.goto 4, 3) := by decide +kernel
theorem dDu_canBeCents_26 : decode bDu_canBeCents 26 = .ok (.iconst 0, 1) := by decide +kernel
theorem dDu_canBeCents_27 : decode bDu_canBeCents 27 = .ok (.ireturn, 1) := by decide +kernel
theorem dDu_fails_0 : decode bDu_fails 0 = .ok (.aload_n 0, 1) := by decide +kernel
theorem dDu_fails_1 : decode bDu_fails 1 = .ok (.iconst 0, 1) := by decide +kernel
theorem dDu_fails_2 : decode bDu_fails 2 = .ok (.iload_n 1, 1) := by decide +kernel
theorem dDu_fails_3 : decode bDu_fails 3 = .ok (.invokevirtual 85, 3) := by decide +kernel
theorem dDu_fails_6 : decode bDu_fails 6 = .ok (.astore_n 3, 1) := by decide +kernel
theorem dDu_fails_7 : decode bDu_fails 7 = .ok (.aload_n 3, 1) := by decide +kernel
theorem dDu_fails_8 : decode bDu_fails 8 = .ok (.ifnonnull 5, 3) := by decide +kernel
theorem dDu_fails_11 : decode bDu_fails 11 = .ok (.iconst 0, 1) := by decide +kernel
theorem dDu_fails_12 : decode bDu_fails 12 = .ok (.ireturn, 1) := by decide +kernel
theorem dDu_fails_13 : decode bDu_fails 13 = .ok (.aload_n 3, 1) := by decide +kernel
theorem dDu_fails_14 : decode bDu_fails 14 = .ok (.iload_n 2, 1) := by decide +kernel
theorem dDu_fails_15 : decode bDu_fails 15 = .ok (.putfield 100, 3) := by decide +kernel
theorem dDu_fails_18 : decode bDu_fails 18 = .ok (.iconst 1, 1) := by decide +kernel
theorem dDu_fails_19 : decode bDu_fails 19 = .ok (.ireturn, 1) := by decide +kernel
theorem dDu_close_0 : decode bDu_close 0 = .ok (.iload_n 1, 1) := by decide +kernel
theorem dDu_close_1 : decode bDu_close 1 = .ok (.invokestatic 71, 3) := by decide +kernel
theorem dDu_close_4 : decode bDu_close 4 = .ok (.ifCond .eq 11, 3) := by decide +kernel
theorem dDu_close_7 : decode bDu_close 7 = .ok (.iload_n 1, 1) := by decide +kernel
theorem dDu_close_8 : decode bDu_close 8 = .ok (.aload_n 0, 1) := by decide +kernel
theorem dDu_close_9 : decode bDu_close 9 = .ok (.getfield 40, 3) := by decide +kernel
theorem dDu_close_12 : decode bDu_close 12 = .ok (.if_icmp .gt 5, 3) := by decide +kernel
theorem dDu_close_15 : decode bDu_close 15 = .ok (.iconst 0, 1) := by decide +kernel
theorem dDu_close_16 : decode bDu_close 16 = .ok (.ireturn, 1) := by decide +kernel
theorem dDu_close_17 : decode bDu_close 17 = .ok (.aload_n 0, 1) := by decide +kernel
theorem dDu_close_18 : decode bDu_close 18 = .ok (.iload_n 1, 1) := by decide +kernel
theorem dDu_close_19 : decode bDu_close 19 = .ok (.putfield 40, 3) := by decide +kernel
theorem dDu_close_22 : decode bDu_close 22 = .ok (.iconst 1, 1) := by decide +kernel
theorem dDu_close_23 : decode bDu_close 23 = .ok (.ireturn, 1) := by decide +kernel
theorem dDu_isDay_0 : decode bDu_isDay 0 = .ok (.iload_n 0, 1) := by decide +kernel
theorem dDu_isDay_1 : decode bDu_isDay 1 = .ok (.ifCond .lt 13, 3) := by decide +kernel
theorem dDu_isDay_4 : decode bDu_isDay 4 = .ok (.iload_n 0, 1) := by decide +kernel
theorem dDu_isDay_5 : decode bDu_isDay 5 = .ok (.ldc 228, 2) := by decide +kernel
theorem dDu_isDay_7 : decode bDu_isDay 7 = .ok (.if_icmp .gt 7, 3) := by decide +kernel
theorem dDu_isDay_10 : decode bDu_isDay 10 = .ok (.iconst 1, 1) := by decide +kernel
theorem dDu_isDay_11 : decode bDu_isDay 11 = .ok (.goto 4, 3) := by decide +kernel
theorem dDu_isDay_14 : decode bDu_isDay 14 = .ok (.iconst 0, 1) := by decide +kernel
theorem dDu_isDay_15 : decode bDu_isDay 15 = .ok (.ireturn, 1) := by decide +kernel
theorem dDu_part_0 : decode bDu_part 0 = .ok (.iload_n 1, 1) := by decide +kernel
theorem dDu_part_1 : decode bDu_part 1 = .ok (.invokestatic 55, 3) := by decide +kernel
theorem dDu_part_4 : decode bDu_part 4 = .ok (.ifCond .eq 21, 3) := by decide +kernel
theorem dDu_part_7 : decode bDu_part 7 = .ok (.iload_n 2, 1) := by decide +kernel
theorem dDu_part_8 : decode bDu_part 8 = .ok (.invokestatic 154, 3) := by decide +kernel
theorem dDu_part_11 : decode bDu_part 11 = .ok (.ifCond .eq 14, 3) := by decide +kernel
theorem dDu_part_14 : decode bDu_part 14 = .ok (.iload_n 3, 1) := by decide +kernel
theorem dDu_part_15 : decode bDu_part 15 = .ok (.ifCond .lt 10, 3) := by decide +kernel
theorem dDu_part_18 : decode bDu_part 18 = .ok (.iload_n 3, 1) := by decide +kernel
theorem dDu_part_19 : decode bDu_part 19 = .ok (.sipush 1000, 3) := by decide +kernel
theorem dDu_part_22 : decode bDu_part 22 = .ok (.if_icmp .le 5, 3) := by decide +kernel
theorem dDu_part_25 : decode bDu_part 25 = .ok (.iconst 0, 1) := by decide +kernel
theorem dDu_part_26 : decode bDu_part 26 = .ok (.ireturn, 1) := by decide +kernel
theorem dDu_part_27 : decode bDu_part 27 = .ok (.aload_n 0, 1) := by decide +kernel
theorem dDu_part_28 : decode bDu_part 28 = .ok (.getfield 36, 3) := by decide +kernel
theorem dDu_part_31 : decode bDu_part 31 = .ok (.iload_n 1, 1) := by decide +kernel
theorem dDu_part_32 : decode bDu_part 32 = .ok (.iload_n 2, 1) := by decide +kernel
theorem dDu_part_33 : decode bDu_part 33 = .ok (.iload_n 3, 1) := by decide +kernel
theorem dDu_part_34 : decode bDu_part 34 = .ok (.invokevirtual 157, 3) := by decide +kernel
theorem dDu_part_37 : decode bDu_part 37 = .ok (.iconst 1, 1) := by decide +kernel
theorem dDu_part_38 : decode bDu_part 38 = .ok (.ireturn, 1) := by decide +kernel
theorem dDu_isKind_0 : decode bDu_isKind 0 = .ok (.iload_n 0, 1) := by decide +kernel
theorem dDu_isKind_1 : decode bDu_isKind 1 = .ok (.ifCond .lt 13, 3) := by decide +kernel
theorem dDu_isKind_4 : decode bDu_isKind 4 = .ok (.iload_n 0, 1) := by decide +kernel
theorem dDu_isKind_5 : decode bDu_isKind 5 = .ok (.bipush 6, 2) := by decide +kernel
theorem dDu_isKind_7 : decode bDu_isKind 7 = .ok (.if_icmp .ge 7, 3) := by decide +kernel
theorem dDu_isKind_10 : decode bDu_isKind 10 = .ok (.iconst 1, 1) := by decide +kernel
theorem dDu_isKind_11 : decode bDu_isKind 11 = .ok (.goto 4, 3) := by decide +kernel
theorem dDu_isKind_14 : decode bDu_isKind 14 = .ok (.iconst 0, 1) := by decide +kernel
theorem dDu_isKind_15 : decode bDu_isKind 15 = .ok (.ireturn, 1) := by decide +kernel
theorem dDu_isReceiver_0 : decode bDu_isReceiver 0 = .ok (.iload_n 0, 1) := by decide +kernel
theorem dDu_isReceiver_1 : decode bDu_isReceiver 1 = .ok (.ifCond .lt 12, 3) := by decide +kernel
theorem dDu_isReceiver_4 : decode bDu_isReceiver 4 = .ok (.iload_n 0, 1) := by decide +kernel
theorem dDu_isReceiver_5 : decode bDu_isReceiver 5 = .ok (.iconst 4, 1) := by decide +kernel
theorem dDu_isReceiver_6 : decode bDu_isReceiver 6 = .ok (.if_icmp .ge 7, 3) := by decide +kernel
theorem dDu_isReceiver_9 : decode bDu_isReceiver 9 = .ok (.iconst 1, 1) := by decide +kernel
theorem dDu_isReceiver_10 : decode bDu_isReceiver 10 = .ok (.goto 4, 3) := by decide +kernel
theorem dDu_isReceiver_13 : decode bDu_isReceiver 13 = .ok (.iconst 0, 1) := by decide +kernel
theorem dDu_isReceiver_14 : decode bDu_isReceiver 14 = .ok (.ireturn, 1) := by decide +kernel
theorem dDu_cost_0 : decode bDu_cost 0 = .ok (.iload_n 1, 1) := by decide +kernel
theorem dDu_cost_1 : decode bDu_cost 1 = .ok (.invokestatic 55, 3) := by decide +kernel
theorem dDu_cost_4 : decode bDu_cost 4 = .ok (.ifCond .eq 14, 3) := by decide +kernel
theorem dDu_cost_7 : decode bDu_cost 7 = .ok (.iload_n 2, 1) := by decide +kernel
theorem dDu_cost_8 : decode bDu_cost 8 = .ok (.ifCond .lt 10, 3) := by decide +kernel
theorem dDu_cost_11 : decode bDu_cost 11 = .ok (.iload_n 2, 1) := by decide +kernel
theorem dDu_cost_12 : decode bDu_cost 12 = .ok (.sipush 1000, 3) := by decide +kernel
theorem dDu_cost_15 : decode bDu_cost 15 = .ok (.if_icmp .le 5, 3) := by decide +kernel
theorem dDu_cost_18 : decode bDu_cost 18 = .ok (.iconst 0, 1) := by decide +kernel
theorem dDu_cost_19 : decode bDu_cost 19 = .ok (.ireturn, 1) := by decide +kernel
theorem dDu_cost_20 : decode bDu_cost 20 = .ok (.aload_n 0, 1) := by decide +kernel
theorem dDu_cost_21 : decode bDu_cost 21 = .ok (.getfield 36, 3) := by decide +kernel
theorem dDu_cost_24 : decode bDu_cost 24 = .ok (.iload_n 1, 1) := by decide +kernel
theorem dDu_cost_25 : decode bDu_cost 25 = .ok (.iload_n 2, 1) := by decide +kernel
theorem dDu_cost_26 : decode bDu_cost 26 = .ok (.invokevirtual 160, 3) := by decide +kernel
theorem dDu_cost_29 : decode bDu_cost 29 = .ok (.iconst 1, 1) := by decide +kernel
theorem dDu_cost_30 : decode bDu_cost 30 = .ok (.ireturn, 1) := by decide +kernel
theorem dDu_count_0 : decode bDu_count 0 = .ok (.iload_n 1, 1) := by decide +kernel
theorem dDu_count_1 : decode bDu_count 1 = .ok (.tableswitch 102 0 8 #[51, 56, 61, 69, 74, 79, 84, 89, 97], 51) := by decide +kernel
theorem dDu_count_52 : decode bDu_count 52 = .ok (.aload_n 0, 1) := by decide +kernel
theorem dDu_count_53 : decode bDu_count 53 = .ok (.getfield 13, 3) := by decide +kernel
theorem dDu_count_56 : decode bDu_count 56 = .ok (.ireturn, 1) := by decide +kernel
theorem dDu_count_57 : decode bDu_count 57 = .ok (.aload_n 0, 1) := by decide +kernel
theorem dDu_count_58 : decode bDu_count 58 = .ok (.getfield 23, 3) := by decide +kernel
theorem dDu_count_61 : decode bDu_count 61 = .ok (.ireturn, 1) := by decide +kernel
theorem dDu_count_62 : decode bDu_count 62 = .ok (.aload_n 0, 1) := by decide +kernel
theorem dDu_count_63 : decode bDu_count 63 = .ok (.getfield 29, 3) := by decide +kernel
theorem dDu_count_66 : decode bDu_count 66 = .ok (.getfield 183, 3) := by decide +kernel
theorem dDu_count_69 : decode bDu_count 69 = .ok (.ireturn, 1) := by decide +kernel
theorem dDu_count_70 : decode bDu_count 70 = .ok (.aload_n 0, 1) := by decide +kernel
theorem dDu_count_71 : decode bDu_count 71 = .ok (.getfield 40, 3) := by decide +kernel
theorem dDu_count_74 : decode bDu_count 74 = .ok (.ireturn, 1) := by decide +kernel
theorem dDu_count_75 : decode bDu_count 75 = .ok (.aload_n 0, 1) := by decide +kernel
theorem dDu_count_76 : decode bDu_count 76 = .ok (.getfield 43, 3) := by decide +kernel
theorem dDu_count_79 : decode bDu_count 79 = .ok (.ireturn, 1) := by decide +kernel
theorem dDu_count_80 : decode bDu_count 80 = .ok (.aload_n 0, 1) := by decide +kernel
theorem dDu_count_81 : decode bDu_count 81 = .ok (.getfield 46, 3) := by decide +kernel
theorem dDu_count_84 : decode bDu_count 84 = .ok (.ireturn, 1) := by decide +kernel
theorem dDu_count_85 : decode bDu_count 85 = .ok (.aload_n 0, 1) := by decide +kernel
theorem dDu_count_86 : decode bDu_count 86 = .ok (.getfield 49, 3) := by decide +kernel
theorem dDu_count_89 : decode bDu_count 89 = .ok (.ireturn, 1) := by decide +kernel
theorem dDu_count_90 : decode bDu_count 90 = .ok (.aload_n 0, 1) := by decide +kernel
theorem dDu_count_91 : decode bDu_count 91 = .ok (.getfield 29, 3) := by decide +kernel
theorem dDu_count_94 : decode bDu_count 94 = .ok (.getfield 225, 3) := by decide +kernel
theorem dDu_count_97 : decode bDu_count 97 = .ok (.ireturn, 1) := by decide +kernel
theorem dDu_count_98 : decode bDu_count 98 = .ok (.aload_n 0, 1) := by decide +kernel
theorem dDu_count_99 : decode bDu_count 99 = .ok (.getfield 52, 3) := by decide +kernel
theorem dDu_count_102 : decode bDu_count 102 = .ok (.ireturn, 1) := by decide +kernel
theorem dDu_count_103 : decode bDu_count 103 = .ok (.iconst (-1), 1) := by decide +kernel
theorem dDu_count_104 : decode bDu_count 104 = .ok (.ireturn, 1) := by decide +kernel
theorem dDu_account_0 : decode bDu_account 0 = .ok (.iload_n 1, 1) := by decide +kernel
theorem dDu_account_1 : decode bDu_account 1 = .ok (.invokestatic 55, 3) := by decide +kernel
theorem dDu_account_4 : decode bDu_account 4 = .ok (.ifCond .ne 13, 3) := by decide +kernel
theorem dDu_account_7 : decode bDu_account 7 = .ok (.new 59, 3) := by decide +kernel
theorem dDu_account_10 : decode bDu_account 10 = .ok (.dup, 1) := by decide +kernel
theorem dDu_account_11 : decode bDu_account 11 = .ok (.ldc 61, 2) := by decide +kernel
theorem dDu_account_13 : decode bDu_account 13 = .ok (.invokespecial 63, 3) := by decide +kernel
theorem dDu_account_16 : decode bDu_account 16 = .ok (.athrow, 1) := by decide +kernel
theorem dDu_account_17 : decode bDu_account 17 = .ok (.aload_n 0, 1) := by decide +kernel
theorem dDu_account_18 : decode bDu_account 18 = .ok (.getfield 13, 3) := by decide +kernel
theorem dDu_account_21 : decode bDu_account 21 = .ok (.bipush 12, 2) := by decide +kernel
theorem dDu_account_23 : decode bDu_account 23 = .ok (.if_icmp .lt 13, 3) := by decide +kernel
theorem dDu_account_26 : decode bDu_account 26 = .ok (.new 66, 3) := by decide +kernel
theorem dDu_account_29 : decode bDu_account 29 = .ok (.dup, 1) := by decide +kernel
theorem dDu_account_30 : decode bDu_account 30 = .ok (.ldc 68, 2) := by decide +kernel
theorem dDu_account_32 : decode bDu_account 32 = .ok (.invokespecial 70, 3) := by decide +kernel
theorem dDu_account_35 : decode bDu_account 35 = .ok (.athrow, 1) := by decide +kernel
theorem dDu_account_36 : decode bDu_account 36 = .ok (.aload_n 0, 1) := by decide +kernel
theorem dDu_account_37 : decode bDu_account 37 = .ok (.getfield 9, 3) := by decide +kernel
theorem dDu_account_40 : decode bDu_account 40 = .ok (.aload_n 0, 1) := by decide +kernel
theorem dDu_account_41 : decode bDu_account 41 = .ok (.getfield 13, 3) := by decide +kernel
theorem dDu_account_44 : decode bDu_account 44 = .ok (.iload_n 1, 1) := by decide +kernel
theorem dDu_account_45 : decode bDu_account 45 = .ok (.iastore, 1) := by decide +kernel
theorem dDu_account_46 : decode bDu_account 46 = .ok (.aload_n 0, 1) := by decide +kernel
theorem dDu_account_47 : decode bDu_account 47 = .ok (.dup, 1) := by decide +kernel
theorem dDu_account_48 : decode bDu_account 48 = .ok (.getfield 13, 3) := by decide +kernel
theorem dDu_account_51 : decode bDu_account 51 = .ok (.iconst 1, 1) := by decide +kernel
theorem dDu_account_52 : decode bDu_account 52 = .ok (.iadd, 1) := by decide +kernel
theorem dDu_account_53 : decode bDu_account 53 = .ok (.putfield 13, 3) := by decide +kernel
theorem dDu_account_56 : decode bDu_account 56 = .ok (.aload_n 0, 1) := by decide +kernel
theorem dDu_account_57 : decode bDu_account 57 = .ok (.getfield 13, 3) := by decide +kernel
theorem dDu_account_60 : decode bDu_account 60 = .ok (.iconst 1, 1) := by decide +kernel
theorem dDu_account_61 : decode bDu_account 61 = .ok (.isub, 1) := by decide +kernel
theorem dDu_account_62 : decode bDu_account 62 = .ok (.ireturn, 1) := by decide +kernel
theorem dDu_batch_0 : decode bDu_batch 0 = .ok (.iload_n 1, 1) := by decide +kernel
theorem dDu_batch_1 : decode bDu_batch 1 = .ok (.invokestatic 71, 3) := by decide +kernel
theorem dDu_batch_4 : decode bDu_batch 4 = .ok (.ifCond .eq 10, 3) := by decide +kernel
theorem dDu_batch_7 : decode bDu_batch 7 = .ok (.iload_n 2, 1) := by decide +kernel
theorem dDu_batch_8 : decode bDu_batch 8 = .ok (.invokestatic 71, 3) := by decide +kernel
theorem dDu_batch_11 : decode bDu_batch 11 = .ok (.ifCond .ne 13, 3) := by decide +kernel
theorem dDu_batch_14 : decode bDu_batch 14 = .ok (.new 59, 3) := by decide +kernel
theorem dDu_batch_17 : decode bDu_batch 17 = .ok (.dup, 1) := by decide +kernel
theorem dDu_batch_18 : decode bDu_batch 18 = .ok (.ldc 74, 2) := by decide +kernel
theorem dDu_batch_20 : decode bDu_batch 20 = .ok (.invokespecial 63, 3) := by decide +kernel
theorem dDu_batch_23 : decode bDu_batch 23 = .ok (.athrow, 1) := by decide +kernel
theorem dDu_batch_24 : decode bDu_batch 24 = .ok (.aload_n 0, 1) := by decide +kernel
theorem dDu_batch_25 : decode bDu_batch 25 = .ok (.getfield 23, 3) := by decide +kernel
theorem dDu_batch_28 : decode bDu_batch 28 = .ok (.bipush 100, 2) := by decide +kernel
theorem dDu_batch_30 : decode bDu_batch 30 = .ok (.if_icmp .lt 13, 3) := by decide +kernel
theorem dDu_batch_33 : decode bDu_batch 33 = .ok (.new 66, 3) := by decide +kernel
theorem dDu_batch_36 : decode bDu_batch 36 = .ok (.dup, 1) := by decide +kernel
theorem dDu_batch_37 : decode bDu_batch 37 = .ok (.ldc 76, 2) := by decide +kernel
theorem dDu_batch_39 : decode bDu_batch 39 = .ok (.invokespecial 70, 3) := by decide +kernel
theorem dDu_batch_42 : decode bDu_batch 42 = .ok (.athrow, 1) := by decide +kernel
theorem dDu_batch_43 : decode bDu_batch 43 = .ok (.aload_n 0, 1) := by decide +kernel
theorem dDu_batch_44 : decode bDu_batch 44 = .ok (.new 17, 3) := by decide +kernel
theorem dDu_batch_47 : decode bDu_batch 47 = .ok (.dup, 1) := by decide +kernel
theorem dDu_batch_48 : decode bDu_batch 48 = .ok (.iload_n 1, 1) := by decide +kernel
theorem dDu_batch_49 : decode bDu_batch 49 = .ok (.iload_n 2, 1) := by decide +kernel
theorem dDu_batch_50 : decode bDu_batch 50 = .ok (.iconst (-1), 1) := by decide +kernel
theorem dDu_batch_51 : decode bDu_batch 51 = .ok (.invokespecial 78, 3) := by decide +kernel
theorem dDu_batch_54 : decode bDu_batch 54 = .ok (.invokevirtual 81, 3) := by decide +kernel
theorem dDu_batch_57 : decode bDu_batch 57 = .ok (.ireturn, 1) := by decide +kernel
theorem dDu_keep_0 : decode bDu_keep 0 = .ok (.aload_n 0, 1) := by decide +kernel
theorem dDu_keep_1 : decode bDu_keep 1 = .ok (.getfield 19, 3) := by decide +kernel
theorem dDu_keep_4 : decode bDu_keep 4 = .ok (.aload_n 0, 1) := by decide +kernel
theorem dDu_keep_5 : decode bDu_keep 5 = .ok (.getfield 23, 3) := by decide +kernel
theorem dDu_keep_8 : decode bDu_keep 8 = .ok (.aload_n 1, 1) := by decide +kernel
theorem dDu_keep_9 : decode bDu_keep 9 = .ok (.aastore, 1) := by decide +kernel
theorem dDu_keep_10 : decode bDu_keep 10 = .ok (.aload_n 0, 1) := by decide +kernel
theorem dDu_keep_11 : decode bDu_keep 11 = .ok (.dup, 1) := by decide +kernel
theorem dDu_keep_12 : decode bDu_keep 12 = .ok (.getfield 23, 3) := by decide +kernel
theorem dDu_keep_15 : decode bDu_keep 15 = .ok (.iconst 1, 1) := by decide +kernel
theorem dDu_keep_16 : decode bDu_keep 16 = .ok (.iadd, 1) := by decide +kernel
theorem dDu_keep_17 : decode bDu_keep 17 = .ok (.putfield 23, 3) := by decide +kernel
theorem dDu_keep_20 : decode bDu_keep 20 = .ok (.aload_n 0, 1) := by decide +kernel
theorem dDu_keep_21 : decode bDu_keep 21 = .ok (.getfield 23, 3) := by decide +kernel
theorem dDu_keep_24 : decode bDu_keep 24 = .ok (.iconst 1, 1) := by decide +kernel
theorem dDu_keep_25 : decode bDu_keep 25 = .ok (.isub, 1) := by decide +kernel
theorem dDu_keep_26 : decode bDu_keep 26 = .ok (.ireturn, 1) := by decide +kernel
theorem dDu_post_0 : decode bDu_post 0 = .ok (.aload_n 0, 1) := by decide +kernel
theorem dDu_post_1 : decode bDu_post 1 = .ok (.iconst 0, 1) := by decide +kernel
theorem dDu_post_2 : decode bDu_post 2 = .ok (.iload_n 1, 1) := by decide +kernel
theorem dDu_post_3 : decode bDu_post 3 = .ok (.invokevirtual 85, 3) := by decide +kernel
theorem dDu_post_6 : decode bDu_post 6 = .ok (.astore_n 2, 1) := by decide +kernel
theorem dDu_post_7 : decode bDu_post 7 = .ok (.aload_n 2, 1) := by decide +kernel
theorem dDu_post_8 : decode bDu_post 8 = .ok (.ifnonnull 13, 3) := by decide +kernel
theorem dDu_post_11 : decode bDu_post 11 = .ok (.new 59, 3) := by decide +kernel
theorem dDu_post_14 : decode bDu_post 14 = .ok (.dup, 1) := by decide +kernel
theorem dDu_post_15 : decode bDu_post 15 = .ok (.ldc 104, 2) := by decide +kernel
theorem dDu_post_17 : decode bDu_post 17 = .ok (.invokespecial 63, 3) := by decide +kernel
theorem dDu_post_20 : decode bDu_post 20 = .ok (.athrow, 1) := by decide +kernel
theorem dDu_post_21 : decode bDu_post 21 = .ok (.aload_n 0, 1) := by decide +kernel
theorem dDu_post_22 : decode bDu_post 22 = .ok (.aload_n 2, 1) := by decide +kernel
theorem dDu_post_23 : decode bDu_post 23 = .ok (.invokevirtual 106, 3) := by decide +kernel
theorem dDu_post_26 : decode bDu_post 26 = .ok (.istore_n 3, 1) := by decide +kernel
theorem dDu_post_27 : decode bDu_post 27 = .ok (.iload_n 3, 1) := by decide +kernel
theorem dDu_post_28 : decode bDu_post 28 = .ok (.ifCond .eq 19, 3) := by decide +kernel
theorem dDu_post_31 : decode bDu_post 31 = .ok (.aload_n 0, 1) := by decide +kernel
theorem dDu_post_32 : decode bDu_post 32 = .ok (.aload_n 2, 1) := by decide +kernel
theorem dDu_post_33 : decode bDu_post 33 = .ok (.iload_n 3, 1) := by decide +kernel
theorem dDu_post_34 : decode bDu_post 34 = .ok (.invokevirtual 109, 3) := by decide +kernel
theorem dDu_post_37 : decode bDu_post 37 = .ok (.new 66, 3) := by decide +kernel
theorem dDu_post_40 : decode bDu_post 40 = .ok (.dup, 1) := by decide +kernel
theorem dDu_post_41 : decode bDu_post 41 = .ok (.ldc 113, 2) := by decide +kernel
theorem dDu_post_43 : decode bDu_post 43 = .ok (.invokespecial 70, 3) := by decide +kernel
theorem dDu_post_46 : decode bDu_post 46 = .ok (.athrow, 1) := by decide +kernel
theorem dDu_post_47 : decode bDu_post 47 = .ok (.aload_n 2, 1) := by decide +kernel
theorem dDu_post_48 : decode bDu_post 48 = .ok (.getfield 100, 3) := by decide +kernel
theorem dDu_post_51 : decode bDu_post 51 = .ok (.ifCond .eq 19, 3) := by decide +kernel
theorem dDu_post_54 : decode bDu_post 54 = .ok (.aload_n 0, 1) := by decide +kernel
theorem dDu_post_55 : decode bDu_post 55 = .ok (.iload_n 1, 1) := by decide +kernel
theorem dDu_post_56 : decode bDu_post 56 = .ok (.aload_n 2, 1) := by decide +kernel
theorem dDu_post_57 : decode bDu_post 57 = .ok (.invokevirtual 115, 3) := by decide +kernel
theorem dDu_post_60 : decode bDu_post 60 = .ok (.new 119, 3) := by decide +kernel
theorem dDu_post_63 : decode bDu_post 63 = .ok (.dup, 1) := by decide +kernel
theorem dDu_post_64 : decode bDu_post 64 = .ok (.ldc 121, 2) := by decide +kernel
theorem dDu_post_66 : decode bDu_post 66 = .ok (.invokespecial 123, 3) := by decide +kernel
theorem dDu_post_69 : decode bDu_post 69 = .ok (.athrow, 1) := by decide +kernel
theorem dDu_post_70 : decode bDu_post 70 = .ok (.aload_n 0, 1) := by decide +kernel
theorem dDu_post_71 : decode bDu_post 71 = .ok (.iload_n 1, 1) := by decide +kernel
theorem dDu_post_72 : decode bDu_post 72 = .ok (.aload_n 2, 1) := by decide +kernel
theorem dDu_post_73 : decode bDu_post 73 = .ok (.invokevirtual 124, 3) := by decide +kernel
theorem dDu_post_76 : decode bDu_post 76 = .ok (.iconst 1, 1) := by decide +kernel
theorem dDu_post_77 : decode bDu_post 77 = .ok (.ireturn, 1) := by decide +kernel
theorem dDu_whatIsWrongWith_0 : decode bDu_whatIsWrongWith 0 = .ok (.aload_n 1, 1) := by decide +kernel
theorem dDu_whatIsWrongWith_1 : decode bDu_whatIsWrongWith 1 = .ok (.getfield 218, 3) := by decide +kernel
theorem dDu_whatIsWrongWith_4 : decode bDu_whatIsWrongWith 4 = .ok (.ifCond .ne 5, 3) := by decide +kernel
theorem dDu_whatIsWrongWith_7 : decode bDu_whatIsWrongWith 7 = .ok (.iconst 1, 1) := by decide +kernel
theorem dDu_whatIsWrongWith_8 : decode bDu_whatIsWrongWith 8 = .ok (.ireturn, 1) := by decide +kernel
theorem dDu_whatIsWrongWith_9 : decode bDu_whatIsWrongWith 9 = .ok (.aload_n 1, 1) := by decide +kernel
theorem dDu_whatIsWrongWith_10 : decode bDu_whatIsWrongWith 10 = .ok (.invokevirtual 233, 3) := by decide +kernel
theorem dDu_whatIsWrongWith_13 : decode bDu_whatIsWrongWith 13 = .ok (.lconst 0, 1) := by decide +kernel
theorem dDu_whatIsWrongWith_14 : decode bDu_whatIsWrongWith 14 = .ok (.lcmp, 1) := by decide +kernel
theorem dDu_whatIsWrongWith_15 : decode bDu_whatIsWrongWith 15 = .ok (.ifCond .eq 5, 3) := by decide +kernel
theorem dDu_whatIsWrongWith_18 : decode bDu_whatIsWrongWith 18 = .ok (.iconst 2, 1) := by decide +kernel
theorem dDu_whatIsWrongWith_19 : decode bDu_whatIsWrongWith 19 = .ok (.ireturn, 1) := by decide +kernel
theorem dDu_whatIsWrongWith_20 : decode bDu_whatIsWrongWith 20 = .ok (.aload_n 1, 1) := by decide +kernel
theorem dDu_whatIsWrongWith_21 : decode bDu_whatIsWrongWith 21 = .ok (.getfield 222, 3) := by decide +kernel
theorem dDu_whatIsWrongWith_24 : decode bDu_whatIsWrongWith 24 = .ok (.aload_n 0, 1) := by decide +kernel
theorem dDu_whatIsWrongWith_25 : decode bDu_whatIsWrongWith 25 = .ok (.getfield 40, 3) := by decide +kernel
theorem dDu_whatIsWrongWith_28 : decode bDu_whatIsWrongWith 28 = .ok (.if_icmp .gt 5, 3) := by decide +kernel
theorem dDu_whatIsWrongWith_31 : decode bDu_whatIsWrongWith 31 = .ok (.iconst 3, 1) := by decide +kernel
theorem dDu_whatIsWrongWith_32 : decode bDu_whatIsWrongWith 32 = .ok (.ireturn, 1) := by decide +kernel
theorem dDu_whatIsWrongWith_33 : decode bDu_whatIsWrongWith 33 = .ok (.aload_n 1, 1) := by decide +kernel
theorem dDu_whatIsWrongWith_34 : decode bDu_whatIsWrongWith 34 = .ok (.getfield 222, 3) := by decide +kernel
theorem dDu_whatIsWrongWith_37 : decode bDu_whatIsWrongWith 37 = .ok (.aload_n 0, 1) := by decide +kernel
theorem dDu_whatIsWrongWith_38 : decode bDu_whatIsWrongWith 38 = .ok (.getfield 43, 3) := by decide +kernel
theorem dDu_whatIsWrongWith_41 : decode bDu_whatIsWrongWith 41 = .ok (.if_icmp .ge 5, 3) := by decide +kernel
theorem dDu_whatIsWrongWith_44 : decode bDu_whatIsWrongWith 44 = .ok (.iconst 4, 1) := by decide +kernel
theorem dDu_whatIsWrongWith_45 : decode bDu_whatIsWrongWith 45 = .ok (.ireturn, 1) := by decide +kernel
theorem dDu_whatIsWrongWith_46 : decode bDu_whatIsWrongWith 46 = .ok (.aload_n 0, 1) := by decide +kernel
theorem dDu_whatIsWrongWith_47 : decode bDu_whatIsWrongWith 47 = .ok (.getfield 29, 3) := by decide +kernel
theorem dDu_whatIsWrongWith_50 : decode bDu_whatIsWrongWith 50 = .ok (.aload_n 1, 1) := by decide +kernel
theorem dDu_whatIsWrongWith_51 : decode bDu_whatIsWrongWith 51 = .ok (.getfield 218, 3) := by decide +kernel
theorem dDu_whatIsWrongWith_54 : decode bDu_whatIsWrongWith 54 = .ok (.invokevirtual 236, 3) := by decide +kernel
theorem dDu_whatIsWrongWith_57 : decode bDu_whatIsWrongWith 57 = .ok (.ifCond .ne 5, 3) := by decide +kernel
theorem dDu_whatIsWrongWith_60 : decode bDu_whatIsWrongWith 60 = .ok (.iconst 5, 1) := by decide +kernel
theorem dDu_whatIsWrongWith_61 : decode bDu_whatIsWrongWith 61 = .ok (.ireturn, 1) := by decide +kernel
theorem dDu_whatIsWrongWith_62 : decode bDu_whatIsWrongWith 62 = .ok (.iconst 0, 1) := by decide +kernel
theorem dDu_whatIsWrongWith_63 : decode bDu_whatIsWrongWith 63 = .ok (.ireturn, 1) := by decide +kernel
theorem dDu_makeVoid_0 : decode bDu_makeVoid 0 = .ok (.aload_n 0, 1) := by decide +kernel
theorem dDu_makeVoid_1 : decode bDu_makeVoid 1 = .ok (.iload_n 2, 1) := by decide +kernel
theorem dDu_makeVoid_2 : decode bDu_makeVoid 2 = .ok (.putfield 46, 3) := by decide +kernel
theorem dDu_makeVoid_5 : decode bDu_makeVoid 5 = .ok (.aload_n 0, 1) := by decide +kernel
theorem dDu_makeVoid_6 : decode bDu_makeVoid 6 = .ok (.iload_n 2, 1) := by decide +kernel
theorem dDu_makeVoid_7 : decode bDu_makeVoid 7 = .ok (.iconst 2, 1) := by decide +kernel
theorem dDu_makeVoid_8 : decode bDu_makeVoid 8 = .ok (.if_icmp .ne 11, 3) := by decide +kernel
theorem dDu_makeVoid_11 : decode bDu_makeVoid 11 = .ok (.aload_n 0, 1) := by decide +kernel
theorem dDu_makeVoid_12 : decode bDu_makeVoid 12 = .ok (.aload_n 1, 1) := by decide +kernel
theorem dDu_makeVoid_13 : decode bDu_makeVoid 13 = .ok (.invokevirtual 239, 3) := by decide +kernel
theorem dDu_makeVoid_16 : decode bDu_makeVoid 16 = .ok (.goto 4, 3) := by decide +kernel
theorem dDu_makeVoid_19 : decode bDu_makeVoid 19 = .ok (.iconst (-1), 1) := by decide +kernel
theorem dDu_makeVoid_20 : decode bDu_makeVoid 20 = .ok (.putfield 49, 3) := by decide +kernel
theorem dDu_makeVoid_23 : decode bDu_makeVoid 23 = .ok (.aload_n 1, 1) := by decide +kernel
theorem dDu_makeVoid_24 : decode bDu_makeVoid 24 = .ok (.iconst 0, 1) := by decide +kernel
theorem dDu_makeVoid_25 : decode bDu_makeVoid 25 = .ok (.putfield 218, 3) := by decide +kernel
theorem dDu_makeVoid_28 : decode bDu_makeVoid 28 = .ok (.aload_n 1, 1) := by decide +kernel
theorem dDu_makeVoid_29 : decode bDu_makeVoid 29 = .ok (.iconst 2, 1) := by decide +kernel
theorem dDu_makeVoid_30 : decode bDu_makeVoid 30 = .ok (.putfield 215, 3) := by decide +kernel
theorem dDu_makeVoid_33 : decode bDu_makeVoid 33 = .ok (.return_, 1) := by decide +kernel
theorem dDu_accountFarthestFromZero_0 : decode bDu_accountFarthestFromZero 0 = .ok (.iconst (-1), 1) := by decide +kernel
theorem dDu_accountFarthestFromZero_1 : decode bDu_accountFarthestFromZero 1 = .ok (.istore_n 2, 1) := by decide +kernel
theorem dDu_accountFarthestFromZero_2 : decode bDu_accountFarthestFromZero 2 = .ok (.lconst 0, 1) := by decide +kernel
theorem dDu_accountFarthestFromZero_3 : decode bDu_accountFarthestFromZero 3 = .ok (.lstore_n 3, 1) := by decide +kernel
theorem dDu_accountFarthestFromZero_4 : decode bDu_accountFarthestFromZero 4 = .ok (.iconst 0, 1) := by decide +kernel
theorem dDu_accountFarthestFromZero_5 : decode bDu_accountFarthestFromZero 5 = .ok (.istore 5, 2) := by decide +kernel
theorem dDu_accountFarthestFromZero_7 : decode bDu_accountFarthestFromZero 7 = .ok (.iload 5, 2) := by decide +kernel
theorem dDu_accountFarthestFromZero_9 : decode bDu_accountFarthestFromZero 9 = .ok (.aload_n 0, 1) := by decide +kernel
theorem dDu_accountFarthestFromZero_10 : decode bDu_accountFarthestFromZero 10 = .ok (.getfield 13, 3) := by decide +kernel
theorem dDu_accountFarthestFromZero_13 : decode bDu_accountFarthestFromZero 13 = .ok (.if_icmp .ge 33, 3) := by decide +kernel
theorem dDu_accountFarthestFromZero_16 : decode bDu_accountFarthestFromZero 16 = .ok (.aload_n 1, 1) := by decide +kernel
theorem dDu_accountFarthestFromZero_17 : decode bDu_accountFarthestFromZero 17 = .ok (.iload 5, 2) := by decide +kernel
theorem dDu_accountFarthestFromZero_19 : decode bDu_accountFarthestFromZero 19 = .ok (.invokevirtual 242, 3) := by decide +kernel
theorem dDu_accountFarthestFromZero_22 : decode bDu_accountFarthestFromZero 22 = .ok (.invokestatic 246, 3) := by decide +kernel
theorem dDu_accountFarthestFromZero_25 : decode bDu_accountFarthestFromZero 25 = .ok (.lstore 6, 2) := by decide +kernel
theorem dDu_accountFarthestFromZero_27 : decode bDu_accountFarthestFromZero 27 = .ok (.lload 6, 2) := by decide +kernel
theorem dDu_accountFarthestFromZero_29 : decode bDu_accountFarthestFromZero 29 = .ok (.lload_n 3, 1) := by decide +kernel
theorem dDu_accountFarthestFromZero_30 : decode bDu_accountFarthestFromZero 30 = .ok (.lcmp, 1) := by decide +kernel
theorem dDu_accountFarthestFromZero_31 : decode bDu_accountFarthestFromZero 31 = .ok (.ifCond .le 9, 3) := by decide +kernel
theorem dDu_accountFarthestFromZero_34 : decode bDu_accountFarthestFromZero 34 = .ok (.lload 6, 2) := by decide +kernel
theorem dDu_accountFarthestFromZero_36 : decode bDu_accountFarthestFromZero 36 = .ok (.lstore_n 3, 1) := by decide +kernel
theorem dDu_accountFarthestFromZero_37 : decode bDu_accountFarthestFromZero 37 = .ok (.iload 5, 2) := by decide +kernel
theorem dDu_accountFarthestFromZero_39 : decode bDu_accountFarthestFromZero 39 = .ok (.istore_n 2, 1) := by decide +kernel
theorem dDu_accountFarthestFromZero_40 : decode bDu_accountFarthestFromZero 40 = .ok (.iinc 5 1, 3) := by decide +kernel
theorem dDu_accountFarthestFromZero_43 : decode bDu_accountFarthestFromZero 43 = .ok (.goto (-36), 3) := by decide +kernel
theorem dDu_accountFarthestFromZero_46 : decode bDu_accountFarthestFromZero 46 = .ok (.iload_n 2, 1) := by decide +kernel
theorem dDu_accountFarthestFromZero_47 : decode bDu_accountFarthestFromZero 47 = .ok (.ireturn, 1) := by decide +kernel
theorem dDu_failHalfway_0 : decode bDu_failHalfway 0 = .ok (.aload_n 0, 1) := by decide +kernel
theorem dDu_failHalfway_1 : decode bDu_failHalfway 1 = .ok (.getfield 29, 3) := by decide +kernel
theorem dDu_failHalfway_4 : decode bDu_failHalfway 4 = .ok (.iload_n 1, 1) := by decide +kernel
theorem dDu_failHalfway_5 : decode bDu_failHalfway 5 = .ok (.aload_n 2, 1) := by decide +kernel
theorem dDu_failHalfway_6 : decode bDu_failHalfway 6 = .ok (.aload_n 2, 1) := by decide +kernel
theorem dDu_failHalfway_7 : decode bDu_failHalfway 7 = .ok (.getfield 218, 3) := by decide +kernel
theorem dDu_failHalfway_10 : decode bDu_failHalfway 10 = .ok (.iconst 2, 1) := by decide +kernel
theorem dDu_failHalfway_11 : decode bDu_failHalfway 11 = .ok (.idiv, 1) := by decide +kernel
theorem dDu_failHalfway_12 : decode bDu_failHalfway 12 = .ok (.invokevirtual 252, 3) := by decide +kernel
theorem dDu_failHalfway_15 : decode bDu_failHalfway 15 = .ok (.aload_n 0, 1) := by decide +kernel
theorem dDu_failHalfway_16 : decode bDu_failHalfway 16 = .ok (.getfield 29, 3) := by decide +kernel
theorem dDu_failHalfway_19 : decode bDu_failHalfway 19 = .ok (.invokevirtual 256, 3) := by decide +kernel
theorem dDu_failHalfway_22 : decode bDu_failHalfway 22 = .ok (.aload_n 2, 1) := by decide +kernel
theorem dDu_failHalfway_23 : decode bDu_failHalfway 23 = .ok (.iconst 0, 1) := by decide +kernel
theorem dDu_failHalfway_24 : decode bDu_failHalfway 24 = .ok (.putfield 100, 3) := by decide +kernel
theorem dDu_failHalfway_27 : decode bDu_failHalfway 27 = .ok (.aload_n 0, 1) := by decide +kernel
theorem dDu_failHalfway_28 : decode bDu_failHalfway 28 = .ok (.dup, 1) := by decide +kernel
theorem dDu_failHalfway_29 : decode bDu_failHalfway 29 = .ok (.getfield 52, 3) := by decide +kernel
theorem dDu_failHalfway_32 : decode bDu_failHalfway 32 = .ok (.iconst 1, 1) := by decide +kernel
theorem dDu_failHalfway_33 : decode bDu_failHalfway 33 = .ok (.iadd, 1) := by decide +kernel
theorem dDu_failHalfway_34 : decode bDu_failHalfway 34 = .ok (.putfield 52, 3) := by decide +kernel
theorem dDu_failHalfway_37 : decode bDu_failHalfway 37 = .ok (.return_, 1) := by decide +kernel
theorem dDu_enter_0 : decode bDu_enter 0 = .ok (.aload_n 0, 1) := by decide +kernel
theorem dDu_enter_1 : decode bDu_enter 1 = .ok (.getfield 29, 3) := by decide +kernel
theorem dDu_enter_4 : decode bDu_enter 4 = .ok (.iload_n 1, 1) := by decide +kernel
theorem dDu_enter_5 : decode bDu_enter 5 = .ok (.aload_n 2, 1) := by decide +kernel
theorem dDu_enter_6 : decode bDu_enter 6 = .ok (.aload_n 2, 1) := by decide +kernel
theorem dDu_enter_7 : decode bDu_enter 7 = .ok (.getfield 218, 3) := by decide +kernel
theorem dDu_enter_10 : decode bDu_enter 10 = .ok (.invokevirtual 252, 3) := by decide +kernel
theorem dDu_enter_13 : decode bDu_enter 13 = .ok (.aload_n 0, 1) := by decide +kernel
theorem dDu_enter_14 : decode bDu_enter 14 = .ok (.getfield 29, 3) := by decide +kernel
theorem dDu_enter_17 : decode bDu_enter 17 = .ok (.invokevirtual 259, 3) := by decide +kernel
theorem dDu_enter_20 : decode bDu_enter 20 = .ok (.aload_n 2, 1) := by decide +kernel
theorem dDu_enter_21 : decode bDu_enter 21 = .ok (.iconst 1, 1) := by decide +kernel
theorem dDu_enter_22 : decode bDu_enter 22 = .ok (.putfield 215, 3) := by decide +kernel
theorem dDu_enter_25 : decode bDu_enter 25 = .ok (.aload_n 0, 1) := by decide +kernel
theorem dDu_enter_26 : decode bDu_enter 26 = .ok (.aload_n 2, 1) := by decide +kernel
theorem dDu_enter_27 : decode bDu_enter 27 = .ok (.getfield 222, 3) := by decide +kernel
theorem dDu_enter_30 : decode bDu_enter 30 = .ok (.putfield 43, 3) := by decide +kernel
theorem dDu_enter_33 : decode bDu_enter 33 = .ok (.return_, 1) := by decide +kernel
theorem dDu_reverse_0 : decode bDu_reverse 0 = .ok (.aload_n 0, 1) := by decide +kernel
theorem dDu_reverse_1 : decode bDu_reverse 1 = .ok (.iconst 1, 1) := by decide +kernel
theorem dDu_reverse_2 : decode bDu_reverse 2 = .ok (.iload_n 1, 1) := by decide +kernel
theorem dDu_reverse_3 : decode bDu_reverse 3 = .ok (.invokevirtual 85, 3) := by decide +kernel
theorem dDu_reverse_6 : decode bDu_reverse 6 = .ok (.astore_n 3, 1) := by decide +kernel
theorem dDu_reverse_7 : decode bDu_reverse 7 = .ok (.aload_n 3, 1) := by decide +kernel
theorem dDu_reverse_8 : decode bDu_reverse 8 = .ok (.ifnull 10, 3) := by decide +kernel
theorem dDu_reverse_11 : decode bDu_reverse 11 = .ok (.iload_n 2, 1) := by decide +kernel
theorem dDu_reverse_12 : decode bDu_reverse 12 = .ok (.invokestatic 71, 3) := by decide +kernel
theorem dDu_reverse_15 : decode bDu_reverse 15 = .ok (.ifCond .ne 13, 3) := by decide +kernel
theorem dDu_reverse_18 : decode bDu_reverse 18 = .ok (.new 59, 3) := by decide +kernel
theorem dDu_reverse_21 : decode bDu_reverse 21 = .ok (.dup, 1) := by decide +kernel
theorem dDu_reverse_22 : decode bDu_reverse 22 = .ok (.ldc 127, 2) := by decide +kernel
theorem dDu_reverse_24 : decode bDu_reverse 24 = .ok (.invokespecial 63, 3) := by decide +kernel
theorem dDu_reverse_27 : decode bDu_reverse 27 = .ok (.athrow, 1) := by decide +kernel
theorem dDu_reverse_28 : decode bDu_reverse 28 = .ok (.aload_n 3, 1) := by decide +kernel
theorem dDu_reverse_29 : decode bDu_reverse 29 = .ok (.getfield 129, 3) := by decide +kernel
theorem dDu_reverse_32 : decode bDu_reverse 32 = .ok (.iconst (-1), 1) := by decide +kernel
theorem dDu_reverse_33 : decode bDu_reverse 33 = .ok (.if_icmp .ne 11, 3) := by decide +kernel
theorem dDu_reverse_36 : decode bDu_reverse 36 = .ok (.aload_n 3, 1) := by decide +kernel
theorem dDu_reverse_37 : decode bDu_reverse 37 = .ok (.getfield 132, 3) := by decide +kernel
theorem dDu_reverse_40 : decode bDu_reverse 40 = .ok (.iconst (-1), 1) := by decide +kernel
theorem dDu_reverse_41 : decode bDu_reverse 41 = .ok (.if_icmp .eq 13, 3) := by decide +kernel
theorem dDu_reverse_44 : decode bDu_reverse 44 = .ok (.new 66, 3) := by decide +kernel
theorem dDu_reverse_47 : decode bDu_reverse 47 = .ok (.dup, 1) := by decide +kernel
theorem dDu_reverse_48 : decode bDu_reverse 48 = .ok (.ldc 135, 2) := by decide +kernel
theorem dDu_reverse_50 : decode bDu_reverse 50 = .ok (.invokespecial 70, 3) := by decide +kernel
theorem dDu_reverse_53 : decode bDu_reverse 53 = .ok (.athrow, 1) := by decide +kernel
theorem dDu_reverse_54 : decode bDu_reverse 54 = .ok (.aload_n 0, 1) := by decide +kernel
theorem dDu_reverse_55 : decode bDu_reverse 55 = .ok (.getfield 23, 3) := by decide +kernel
theorem dDu_reverse_58 : decode bDu_reverse 58 = .ok (.bipush 100, 2) := by decide +kernel
theorem dDu_reverse_60 : decode bDu_reverse 60 = .ok (.if_icmp .lt 13, 3) := by decide +kernel
theorem dDu_reverse_63 : decode bDu_reverse 63 = .ok (.new 66, 3) := by decide +kernel
theorem dDu_reverse_66 : decode bDu_reverse 66 = .ok (.dup, 1) := by decide +kernel
theorem dDu_reverse_67 : decode bDu_reverse 67 = .ok (.ldc 76, 2) := by decide +kernel
theorem dDu_reverse_69 : decode bDu_reverse 69 = .ok (.invokespecial 70, 3) := by decide +kernel
theorem dDu_reverse_72 : decode bDu_reverse 72 = .ok (.athrow, 1) := by decide +kernel
theorem dDu_reverse_73 : decode bDu_reverse 73 = .ok (.iload_n 1, 1) := by decide +kernel
theorem dDu_reverse_74 : decode bDu_reverse 74 = .ok (.aload_n 3, 1) := by decide +kernel
theorem dDu_reverse_75 : decode bDu_reverse 75 = .ok (.iload_n 2, 1) := by decide +kernel
theorem dDu_reverse_76 : decode bDu_reverse 76 = .ok (.invokestatic 137, 3) := by decide +kernel
theorem dDu_reverse_79 : decode bDu_reverse 79 = .ok (.astore 4, 2) := by decide +kernel
theorem dDu_reverse_81 : decode bDu_reverse 81 = .ok (.aload_n 0, 1) := by decide +kernel
theorem dDu_reverse_82 : decode bDu_reverse 82 = .ok (.aload 4, 2) := by decide +kernel
theorem dDu_reverse_84 : decode bDu_reverse 84 = .ok (.invokevirtual 106, 3) := by decide +kernel
theorem dDu_reverse_87 : decode bDu_reverse 87 = .ok (.ifCond .eq 13, 3) := by decide +kernel
theorem dDu_reverse_90 : decode bDu_reverse 90 = .ok (.new 66, 3) := by decide +kernel
theorem dDu_reverse_93 : decode bDu_reverse 93 = .ok (.dup, 1) := by decide +kernel
theorem dDu_reverse_94 : decode bDu_reverse 94 = .ok (.ldc 141, 2) := by decide +kernel
theorem dDu_reverse_96 : decode bDu_reverse 96 = .ok (.invokespecial 70, 3) := by decide +kernel
theorem dDu_reverse_99 : decode bDu_reverse 99 = .ok (.athrow, 1) := by decide +kernel
theorem dDu_reverse_100 : decode bDu_reverse 100 = .ok (.aload_n 0, 1) := by decide +kernel
theorem dDu_reverse_101 : decode bDu_reverse 101 = .ok (.aload 4, 2) := by decide +kernel
theorem dDu_reverse_103 : decode bDu_reverse 103 = .ok (.invokevirtual 81, 3) := by decide +kernel
theorem dDu_reverse_106 : decode bDu_reverse 106 = .ok (.istore 5, 2) := by decide +kernel
theorem dDu_reverse_108 : decode bDu_reverse 108 = .ok (.aload_n 0, 1) := by decide +kernel
theorem dDu_reverse_109 : decode bDu_reverse 109 = .ok (.iload 5, 2) := by decide +kernel
theorem dDu_reverse_111 : decode bDu_reverse 111 = .ok (.aload 4, 2) := by decide +kernel
theorem dDu_reverse_113 : decode bDu_reverse 113 = .ok (.invokevirtual 124, 3) := by decide +kernel
theorem dDu_reverse_116 : decode bDu_reverse 116 = .ok (.aload_n 3, 1) := by decide +kernel
theorem dDu_reverse_117 : decode bDu_reverse 117 = .ok (.iload 5, 2) := by decide +kernel
theorem dDu_reverse_119 : decode bDu_reverse 119 = .ok (.putfield 132, 3) := by decide +kernel
theorem dDu_reverse_122 : decode bDu_reverse 122 = .ok (.iload 5, 2) := by decide +kernel
theorem dDu_reverse_124 : decode bDu_reverse 124 = .ok (.ireturn, 1) := by decide +kernel
theorem dDu_reversalOf_0 : decode bDu_reversalOf 0 = .ok (.new 17, 3) := by decide +kernel
theorem dDu_reversalOf_3 : decode bDu_reversalOf 3 = .ok (.dup, 1) := by decide +kernel
theorem dDu_reversalOf_4 : decode bDu_reversalOf 4 = .ok (.aload_n 1, 1) := by decide +kernel
theorem dDu_reversalOf_5 : decode bDu_reversalOf 5 = .ok (.getfield 219, 3) := by decide +kernel
theorem dDu_reversalOf_8 : decode bDu_reversalOf 8 = .ok (.iload_n 2, 1) := by decide +kernel
theorem dDu_reversalOf_9 : decode bDu_reversalOf 9 = .ok (.iload_n 0, 1) := by decide +kernel
theorem dDu_reversalOf_10 : decode bDu_reversalOf 10 = .ok (.invokespecial 78, 3) := by decide +kernel
theorem dDu_reversalOf_13 : decode bDu_reversalOf 13 = .ok (.astore_n 3, 1) := by decide +kernel
theorem dDu_reversalOf_14 : decode bDu_reversalOf 14 = .ok (.iconst 0, 1) := by decide +kernel
theorem dDu_reversalOf_15 : decode bDu_reversalOf 15 = .ok (.istore 4, 2) := by decide +kernel
theorem dDu_reversalOf_17 : decode bDu_reversalOf 17 = .ok (.iload 4, 2) := by decide +kernel
theorem dDu_reversalOf_19 : decode bDu_reversalOf 19 = .ok (.aload_n 1, 1) := by decide +kernel
theorem dDu_reversalOf_20 : decode bDu_reversalOf 20 = .ok (.getfield 218, 3) := by decide +kernel
theorem dDu_reversalOf_23 : decode bDu_reversalOf 23 = .ok (.if_icmp .ge 29, 3) := by decide +kernel
theorem dDu_reversalOf_26 : decode bDu_reversalOf 26 = .ok (.aload_n 3, 1) := by decide +kernel
theorem dDu_reversalOf_27 : decode bDu_reversalOf 27 = .ok (.aload_n 1, 1) := by decide +kernel
theorem dDu_reversalOf_28 : decode bDu_reversalOf 28 = .ok (.getfield 262, 3) := by decide +kernel
theorem dDu_reversalOf_31 : decode bDu_reversalOf 31 = .ok (.iload 4, 2) := by decide +kernel
theorem dDu_reversalOf_33 : decode bDu_reversalOf 33 = .ok (.iaload, 1) := by decide +kernel
theorem dDu_reversalOf_34 : decode bDu_reversalOf 34 = .ok (.aload_n 1, 1) := by decide +kernel
theorem dDu_reversalOf_35 : decode bDu_reversalOf 35 = .ok (.getfield 263, 3) := by decide +kernel
theorem dDu_reversalOf_38 : decode bDu_reversalOf 38 = .ok (.iload 4, 2) := by decide +kernel
theorem dDu_reversalOf_40 : decode bDu_reversalOf 40 = .ok (.laload, 1) := by decide +kernel
theorem dDu_reversalOf_41 : decode bDu_reversalOf 41 = .ok (.lneg, 1) := by decide +kernel
theorem dDu_reversalOf_42 : decode bDu_reversalOf 42 = .ok (.invokevirtual 96, 3) := by decide +kernel
theorem dDu_reversalOf_45 : decode bDu_reversalOf 45 = .ok (.pop, 1) := by decide +kernel
theorem dDu_reversalOf_46 : decode bDu_reversalOf 46 = .ok (.iinc 4 1, 3) := by decide +kernel
theorem dDu_reversalOf_49 : decode bDu_reversalOf 49 = .ok (.goto (-32), 3) := by decide +kernel
theorem dDu_reversalOf_52 : decode bDu_reversalOf 52 = .ok (.aload_n 3, 1) := by decide +kernel
theorem dDu_reversalOf_53 : decode bDu_reversalOf 53 = .ok (.areturn, 1) := by decide +kernel
theorem dDu_balance_0 : decode bDu_balance 0 = .ok (.aload_n 0, 1) := by decide +kernel
theorem dDu_balance_1 : decode bDu_balance 1 = .ok (.iload_n 1, 1) := by decide +kernel
theorem dDu_balance_2 : decode bDu_balance 2 = .ok (.invokevirtual 89, 3) := by decide +kernel
theorem dDu_balance_5 : decode bDu_balance 5 = .ok (.ifCond .eq 17, 3) := by decide +kernel
theorem dDu_balance_8 : decode bDu_balance 8 = .ok (.iload_n 2, 1) := by decide +kernel
theorem dDu_balance_9 : decode bDu_balance 9 = .ok (.invokestatic 71, 3) := by decide +kernel
theorem dDu_balance_12 : decode bDu_balance 12 = .ok (.ifCond .eq 10, 3) := by decide +kernel
theorem dDu_balance_15 : decode bDu_balance 15 = .ok (.iload_n 3, 1) := by decide +kernel
theorem dDu_balance_16 : decode bDu_balance 16 = .ok (.invokestatic 71, 3) := by decide +kernel
theorem dDu_balance_19 : decode bDu_balance 19 = .ok (.ifCond .ne 13, 3) := by decide +kernel
theorem dDu_balance_22 : decode bDu_balance 22 = .ok (.new 59, 3) := by decide +kernel
theorem dDu_balance_25 : decode bDu_balance 25 = .ok (.dup, 1) := by decide +kernel
theorem dDu_balance_26 : decode bDu_balance 26 = .ok (.ldc 143, 2) := by decide +kernel
theorem dDu_balance_28 : decode bDu_balance 28 = .ok (.invokespecial 63, 3) := by decide +kernel
theorem dDu_balance_31 : decode bDu_balance 31 = .ok (.athrow, 1) := by decide +kernel
theorem dDu_balance_32 : decode bDu_balance 32 = .ok (.aload_n 0, 1) := by decide +kernel
theorem dDu_balance_33 : decode bDu_balance 33 = .ok (.getfield 29, 3) := by decide +kernel
theorem dDu_balance_36 : decode bDu_balance 36 = .ok (.iload_n 1, 1) := by decide +kernel
theorem dDu_balance_37 : decode bDu_balance 37 = .ok (.iconst 0, 1) := by decide +kernel
theorem dDu_balance_38 : decode bDu_balance 38 = .ok (.iload_n 2, 1) := by decide +kernel
theorem dDu_balance_39 : decode bDu_balance 39 = .ok (.iload_n 3, 1) := by decide +kernel
theorem dDu_balance_40 : decode bDu_balance 40 = .ok (.invokevirtual 145, 3) := by decide +kernel
theorem dDu_balance_43 : decode bDu_balance 43 = .ok (.lreturn, 1) := by decide +kernel
theorem dDu_statement_0 : decode bDu_statement 0 = .ok (.aload_n 0, 1) := by decide +kernel
theorem dDu_statement_1 : decode bDu_statement 1 = .ok (.iload_n 1, 1) := by decide +kernel
theorem dDu_statement_2 : decode bDu_statement 2 = .ok (.invokevirtual 89, 3) := by decide +kernel
theorem dDu_statement_5 : decode bDu_statement 5 = .ok (.ifCond .eq 17, 3) := by decide +kernel
theorem dDu_statement_8 : decode bDu_statement 8 = .ok (.iload_n 2, 1) := by decide +kernel
theorem dDu_statement_9 : decode bDu_statement 9 = .ok (.invokestatic 149, 3) := by decide +kernel
theorem dDu_statement_12 : decode bDu_statement 12 = .ok (.ifCond .eq 10, 3) := by decide +kernel
theorem dDu_statement_15 : decode bDu_statement 15 = .ok (.iload_n 3, 1) := by decide +kernel
theorem dDu_statement_16 : decode bDu_statement 16 = .ok (.invokestatic 71, 3) := by decide +kernel
theorem dDu_statement_19 : decode bDu_statement 19 = .ok (.ifCond .ne 13, 3) := by decide +kernel
theorem dDu_statement_22 : decode bDu_statement 22 = .ok (.new 59, 3) := by decide +kernel
theorem dDu_statement_25 : decode bDu_statement 25 = .ok (.dup, 1) := by decide +kernel
theorem dDu_statement_26 : decode bDu_statement 26 = .ok (.ldc 152, 2) := by decide +kernel
theorem dDu_statement_28 : decode bDu_statement 28 = .ok (.invokespecial 63, 3) := by decide +kernel
theorem dDu_statement_31 : decode bDu_statement 31 = .ok (.athrow, 1) := by decide +kernel
theorem dDu_statement_32 : decode bDu_statement 32 = .ok (.bipush 30, 2) := by decide +kernel
theorem dDu_statement_34 : decode bDu_statement 34 = .ok (.iload_n 2, 1) := by decide +kernel
theorem dDu_statement_35 : decode bDu_statement 35 = .ok (.imul, 1) := by decide +kernel
theorem dDu_statement_36 : decode bDu_statement 36 = .ok (.istore 4, 2) := by decide +kernel
theorem dDu_statement_38 : decode bDu_statement 38 = .ok (.aload_n 0, 1) := by decide +kernel
theorem dDu_statement_39 : decode bDu_statement 39 = .ok (.getfield 29, 3) := by decide +kernel
theorem dDu_statement_42 : decode bDu_statement 42 = .ok (.iload_n 1, 1) := by decide +kernel
theorem dDu_statement_43 : decode bDu_statement 43 = .ok (.iload 4, 2) := by decide +kernel
theorem dDu_statement_45 : decode bDu_statement 45 = .ok (.iload 4, 2) := by decide +kernel
theorem dDu_statement_47 : decode bDu_statement 47 = .ok (.bipush 30, 2) := by decide +kernel
theorem dDu_statement_49 : decode bDu_statement 49 = .ok (.iadd, 1) := by decide +kernel
theorem dDu_statement_50 : decode bDu_statement 50 = .ok (.iconst 1, 1) := by decide +kernel
theorem dDu_statement_51 : decode bDu_statement 51 = .ok (.isub, 1) := by decide +kernel
theorem dDu_statement_52 : decode bDu_statement 52 = .ok (.iload_n 3, 1) := by decide +kernel
theorem dDu_statement_53 : decode bDu_statement 53 = .ok (.invokevirtual 145, 3) := by decide +kernel
theorem dDu_statement_56 : decode bDu_statement 56 = .ok (.lreturn, 1) := by decide +kernel
theorem dDu_isMonth_0 : decode bDu_isMonth 0 = .ok (.iload_n 0, 1) := by decide +kernel
theorem dDu_isMonth_1 : decode bDu_isMonth 1 = .ok (.ifCond .lt 14, 3) := by decide +kernel
theorem dDu_isMonth_4 : decode bDu_isMonth 4 = .ok (.iload_n 0, 1) := by decide +kernel
theorem dDu_isMonth_5 : decode bDu_isMonth 5 = .ok (.sipush 3333, 3) := by decide +kernel
theorem dDu_isMonth_8 : decode bDu_isMonth 8 = .ok (.if_icmp .gt 7, 3) := by decide +kernel
theorem dDu_isMonth_11 : decode bDu_isMonth 11 = .ok (.iconst 1, 1) := by decide +kernel
theorem dDu_isMonth_12 : decode bDu_isMonth 12 = .ok (.goto 4, 3) := by decide +kernel
theorem dDu_isMonth_15 : decode bDu_isMonth 15 = .ok (.iconst 0, 1) := by decide +kernel
theorem dDu_isMonth_16 : decode bDu_isMonth 16 = .ok (.ireturn, 1) := by decide +kernel
theorem dDu_passed_0 : decode bDu_passed 0 = .ok (.iload_n 1, 1) := by decide +kernel
theorem dDu_passed_1 : decode bDu_passed 1 = .ok (.invokestatic 55, 3) := by decide +kernel
theorem dDu_passed_4 : decode bDu_passed 4 = .ok (.ifCond .eq 20, 3) := by decide +kernel
theorem dDu_passed_7 : decode bDu_passed 7 = .ok (.iload_n 2, 1) := by decide +kernel
theorem dDu_passed_8 : decode bDu_passed 8 = .ok (.ifCond .lt 16, 3) := by decide +kernel
theorem dDu_passed_11 : decode bDu_passed 11 = .ok (.iload_n 2, 1) := by decide +kernel
theorem dDu_passed_12 : decode bDu_passed 12 = .ok (.bipush 6, 2) := by decide +kernel
theorem dDu_passed_14 : decode bDu_passed 14 = .ok (.if_icmp .gt 10, 3) := by decide +kernel
theorem dDu_passed_17 : decode bDu_passed 17 = .ok (.iload_n 3, 1) := by decide +kernel
theorem dDu_passed_18 : decode bDu_passed 18 = .ok (.invokestatic 71, 3) := by decide +kernel
theorem dDu_passed_21 : decode bDu_passed 21 = .ok (.ifCond .ne 13, 3) := by decide +kernel
theorem dDu_passed_24 : decode bDu_passed 24 = .ok (.new 59, 3) := by decide +kernel
theorem dDu_passed_27 : decode bDu_passed 27 = .ok (.dup, 1) := by decide +kernel
theorem dDu_passed_28 : decode bDu_passed 28 = .ok (.ldc 164, 2) := by decide +kernel
theorem dDu_passed_30 : decode bDu_passed 30 = .ok (.invokespecial 63, 3) := by decide +kernel
theorem dDu_passed_33 : decode bDu_passed 33 = .ok (.athrow, 1) := by decide +kernel
theorem dDu_passed_34 : decode bDu_passed 34 = .ok (.aload_n 0, 1) := by decide +kernel
theorem dDu_passed_35 : decode bDu_passed 35 = .ok (.iload_n 1, 1) := by decide +kernel
theorem dDu_passed_36 : decode bDu_passed 36 = .ok (.iload_n 3, 1) := by decide +kernel
theorem dDu_passed_37 : decode bDu_passed 37 = .ok (.invokevirtual 166, 3) := by decide +kernel
theorem dDu_passed_40 : decode bDu_passed 40 = .ok (.lstore 4, 2) := by decide +kernel
theorem dDu_passed_42 : decode bDu_passed 42 = .ok (.aload_n 0, 1) := by decide +kernel
theorem dDu_passed_43 : decode bDu_passed 43 = .ok (.getfield 36, 3) := by decide +kernel
theorem dDu_passed_46 : decode bDu_passed 46 = .ok (.iload_n 1, 1) := by decide +kernel
theorem dDu_passed_47 : decode bDu_passed 47 = .ok (.lload 4, 2) := by decide +kernel
theorem dDu_passed_49 : decode bDu_passed 49 = .ok (.invokevirtual 170, 3) := by decide +kernel
theorem dDu_passed_52 : decode bDu_passed 52 = .ok (.lstore 6, 2) := by decide +kernel
theorem dDu_passed_54 : decode bDu_passed 54 = .ok (.iload_n 2, 1) := by decide +kernel
theorem dDu_passed_55 : decode bDu_passed 55 = .ok (.tableswitch 48 4 6 #[25, 28, 45], 25) := by decide +kernel
theorem dDu_passed_80 : decode bDu_passed 80 = .ok (.lload 6, 2) := by decide +kernel
theorem dDu_passed_82 : decode bDu_passed 82 = .ok (.lreturn, 1) := by decide +kernel
theorem dDu_passed_83 : decode bDu_passed 83 = .ok (.lload 4, 2) := by decide +kernel
theorem dDu_passed_85 : decode bDu_passed 85 = .ok (.aload_n 0, 1) := by decide +kernel
theorem dDu_passed_86 : decode bDu_passed 86 = .ok (.getfield 36, 3) := by decide +kernel
theorem dDu_passed_89 : decode bDu_passed 89 = .ok (.iload_n 1, 1) := by decide +kernel
theorem dDu_passed_90 : decode bDu_passed 90 = .ok (.lload 4, 2) := by decide +kernel
theorem dDu_passed_92 : decode bDu_passed 92 = .ok (.lload 6, 2) := by decide +kernel
theorem dDu_passed_94 : decode bDu_passed 94 = .ok (.lsub, 1) := by decide +kernel
theorem dDu_passed_95 : decode bDu_passed 95 = .ok (.invokevirtual 174, 3) := by decide +kernel
theorem dDu_passed_98 : decode bDu_passed 98 = .ok (.lsub, 1) := by decide +kernel
theorem dDu_passed_99 : decode bDu_passed 99 = .ok (.lreturn, 1) := by decide +kernel
theorem dDu_passed_100 : decode bDu_passed 100 = .ok (.lload 4, 2) := by decide +kernel
theorem dDu_passed_102 : decode bDu_passed 102 = .ok (.lreturn, 1) := by decide +kernel
theorem dDu_passed_103 : decode bDu_passed 103 = .ok (.aload_n 0, 1) := by decide +kernel
theorem dDu_passed_104 : decode bDu_passed 104 = .ok (.getfield 36, 3) := by decide +kernel
theorem dDu_passed_107 : decode bDu_passed 107 = .ok (.iload_n 1, 1) := by decide +kernel
theorem dDu_passed_108 : decode bDu_passed 108 = .ok (.iload_n 2, 1) := by decide +kernel
theorem dDu_passed_109 : decode bDu_passed 109 = .ok (.lload 4, 2) := by decide +kernel
theorem dDu_passed_111 : decode bDu_passed 111 = .ok (.lload 6, 2) := by decide +kernel
theorem dDu_passed_113 : decode bDu_passed 113 = .ok (.lsub, 1) := by decide +kernel
theorem dDu_passed_114 : decode bDu_passed 114 = .ok (.invokevirtual 177, 3) := by decide +kernel
theorem dDu_passed_117 : decode bDu_passed 117 = .ok (.lreturn, 1) := by decide +kernel
theorem dDu_collectedOf_0 : decode bDu_collectedOf 0 = .ok (.lconst 0, 1) := by decide +kernel
theorem dDu_collectedOf_1 : decode bDu_collectedOf 1 = .ok (.lstore_n 3, 1) := by decide +kernel
theorem dDu_collectedOf_2 : decode bDu_collectedOf 2 = .ok (.iconst 0, 1) := by decide +kernel
theorem dDu_collectedOf_3 : decode bDu_collectedOf 3 = .ok (.istore 5, 2) := by decide +kernel
theorem dDu_collectedOf_5 : decode bDu_collectedOf 5 = .ok (.iload 5, 2) := by decide +kernel
theorem dDu_collectedOf_7 : decode bDu_collectedOf 7 = .ok (.aload_n 0, 1) := by decide +kernel
theorem dDu_collectedOf_8 : decode bDu_collectedOf 8 = .ok (.getfield 13, 3) := by decide +kernel
theorem dDu_collectedOf_11 : decode bDu_collectedOf 11 = .ok (.if_icmp .ge 36, 3) := by decide +kernel
theorem dDu_collectedOf_14 : decode bDu_collectedOf 14 = .ok (.aload_n 0, 1) := by decide +kernel
theorem dDu_collectedOf_15 : decode bDu_collectedOf 15 = .ok (.getfield 9, 3) := by decide +kernel
theorem dDu_collectedOf_18 : decode bDu_collectedOf 18 = .ok (.iload 5, 2) := by decide +kernel
theorem dDu_collectedOf_20 : decode bDu_collectedOf 20 = .ok (.iaload, 1) := by decide +kernel
theorem dDu_collectedOf_21 : decode bDu_collectedOf 21 = .ok (.iload_n 1, 1) := by decide +kernel
theorem dDu_collectedOf_22 : decode bDu_collectedOf 22 = .ok (.if_icmp .ne 19, 3) := by decide +kernel
theorem dDu_collectedOf_25 : decode bDu_collectedOf 25 = .ok (.lload_n 3, 1) := by decide +kernel
theorem dDu_collectedOf_26 : decode bDu_collectedOf 26 = .ok (.aload_n 0, 1) := by decide +kernel
theorem dDu_collectedOf_27 : decode bDu_collectedOf 27 = .ok (.getfield 29, 3) := by decide +kernel
theorem dDu_collectedOf_30 : decode bDu_collectedOf 30 = .ok (.iload 5, 2) := by decide +kernel
theorem dDu_collectedOf_32 : decode bDu_collectedOf 32 = .ok (.iconst 0, 1) := by decide +kernel
theorem dDu_collectedOf_33 : decode bDu_collectedOf 33 = .ok (.ldc 228, 2) := by decide +kernel
theorem dDu_collectedOf_35 : decode bDu_collectedOf 35 = .ok (.iload_n 2, 1) := by decide +kernel
theorem dDu_collectedOf_36 : decode bDu_collectedOf 36 = .ok (.invokevirtual 145, 3) := by decide +kernel
theorem dDu_collectedOf_39 : decode bDu_collectedOf 39 = .ok (.ladd, 1) := by decide +kernel
theorem dDu_collectedOf_40 : decode bDu_collectedOf 40 = .ok (.lstore_n 3, 1) := by decide +kernel
theorem dDu_collectedOf_41 : decode bDu_collectedOf 41 = .ok (.iinc 5 1, 3) := by decide +kernel
theorem dDu_collectedOf_44 : decode bDu_collectedOf 44 = .ok (.goto (-39), 3) := by decide +kernel
theorem dDu_collectedOf_47 : decode bDu_collectedOf 47 = .ok (.lload_n 3, 1) := by decide +kernel
theorem dDu_collectedOf_48 : decode bDu_collectedOf 48 = .ok (.lconst 0, 1) := by decide +kernel
theorem dDu_collectedOf_49 : decode bDu_collectedOf 49 = .ok (.invokestatic 264, 3) := by decide +kernel
theorem dDu_collectedOf_52 : decode bDu_collectedOf 52 = .ok (.lreturn, 1) := by decide +kernel
theorem dDu_reconcile_0 : decode bDu_reconcile 0 = .ok (.aload_n 0, 1) := by decide +kernel
theorem dDu_reconcile_1 : decode bDu_reconcile 1 = .ok (.iload_n 1, 1) := by decide +kernel
theorem dDu_reconcile_2 : decode bDu_reconcile 2 = .ok (.invokevirtual 89, 3) := by decide +kernel
theorem dDu_reconcile_5 : decode bDu_reconcile 5 = .ok (.ifCond .eq 16, 3) := by decide +kernel
theorem dDu_reconcile_8 : decode bDu_reconcile 8 = .ok (.aload_n 0, 1) := by decide +kernel
theorem dDu_reconcile_9 : decode bDu_reconcile 9 = .ok (.iload_n 2, 1) := by decide +kernel
theorem dDu_reconcile_10 : decode bDu_reconcile 10 = .ok (.invokevirtual 89, 3) := by decide +kernel
theorem dDu_reconcile_13 : decode bDu_reconcile 13 = .ok (.ifCond .eq 8, 3) := by decide +kernel
theorem dDu_reconcile_16 : decode bDu_reconcile 16 = .ok (.iload_n 1, 1) := by decide +kernel
theorem dDu_reconcile_17 : decode bDu_reconcile 17 = .ok (.iload_n 2, 1) := by decide +kernel
theorem dDu_reconcile_18 : decode bDu_reconcile 18 = .ok (.if_icmp .ne 13, 3) := by decide +kernel
theorem dDu_reconcile_21 : decode bDu_reconcile 21 = .ok (.new 59, 3) := by decide +kernel
theorem dDu_reconcile_24 : decode bDu_reconcile 24 = .ok (.dup, 1) := by decide +kernel
theorem dDu_reconcile_25 : decode bDu_reconcile 25 = .ok (.ldc 181, 2) := by decide +kernel
theorem dDu_reconcile_27 : decode bDu_reconcile 27 = .ok (.invokespecial 63, 3) := by decide +kernel
theorem dDu_reconcile_30 : decode bDu_reconcile 30 = .ok (.athrow, 1) := by decide +kernel
theorem dDu_reconcile_31 : decode bDu_reconcile 31 = .ok (.iload_n 3, 1) := by decide +kernel
theorem dDu_reconcile_32 : decode bDu_reconcile 32 = .ok (.invokestatic 71, 3) := by decide +kernel
theorem dDu_reconcile_35 : decode bDu_reconcile 35 = .ok (.ifCond .eq 11, 3) := by decide +kernel
theorem dDu_reconcile_38 : decode bDu_reconcile 38 = .ok (.iload 4, 2) := by decide +kernel
theorem dDu_reconcile_40 : decode bDu_reconcile 40 = .ok (.invokestatic 71, 3) := by decide +kernel
theorem dDu_reconcile_43 : decode bDu_reconcile 43 = .ok (.ifCond .ne 13, 3) := by decide +kernel
theorem dDu_reconcile_46 : decode bDu_reconcile 46 = .ok (.new 59, 3) := by decide +kernel
theorem dDu_reconcile_49 : decode bDu_reconcile 49 = .ok (.dup, 1) := by decide +kernel
theorem dDu_reconcile_50 : decode bDu_reconcile 50 = .ok (.ldc 74, 2) := by decide +kernel
theorem dDu_reconcile_52 : decode bDu_reconcile 52 = .ok (.invokespecial 63, 3) := by decide +kernel
theorem dDu_reconcile_55 : decode bDu_reconcile 55 = .ok (.athrow, 1) := by decide +kernel
theorem dDu_reconcile_56 : decode bDu_reconcile 56 = .ok (.aload_n 0, 1) := by decide +kernel
theorem dDu_reconcile_57 : decode bDu_reconcile 57 = .ok (.getfield 29, 3) := by decide +kernel
theorem dDu_reconcile_60 : decode bDu_reconcile 60 = .ok (.iload_n 1, 1) := by decide +kernel
theorem dDu_reconcile_61 : decode bDu_reconcile 61 = .ok (.iconst 0, 1) := by decide +kernel
theorem dDu_reconcile_62 : decode bDu_reconcile 62 = .ok (.iload_n 3, 1) := by decide +kernel
theorem dDu_reconcile_63 : decode bDu_reconcile 63 = .ok (.iload 4, 2) := by decide +kernel
theorem dDu_reconcile_65 : decode bDu_reconcile 65 = .ok (.invokevirtual 145, 3) := by decide +kernel
theorem dDu_reconcile_68 : decode bDu_reconcile 68 = .ok (.aload_n 0, 1) := by decide +kernel
theorem dDu_reconcile_69 : decode bDu_reconcile 69 = .ok (.getfield 29, 3) := by decide +kernel
theorem dDu_reconcile_72 : decode bDu_reconcile 72 = .ok (.iload_n 2, 1) := by decide +kernel
theorem dDu_reconcile_73 : decode bDu_reconcile 73 = .ok (.iconst 0, 1) := by decide +kernel
theorem dDu_reconcile_74 : decode bDu_reconcile 74 = .ok (.iload_n 3, 1) := by decide +kernel
theorem dDu_reconcile_75 : decode bDu_reconcile 75 = .ok (.iload 4, 2) := by decide +kernel
theorem dDu_reconcile_77 : decode bDu_reconcile 77 = .ok (.invokevirtual 145, 3) := by decide +kernel
theorem dDu_reconcile_80 : decode bDu_reconcile 80 = .ok (.ladd, 1) := by decide +kernel
theorem dDu_reconcile_81 : decode bDu_reconcile 81 = .ok (.lreturn, 1) := by decide +kernel
theorem dDu_read_0 : decode bDu_read 0 = .ok (.iload_n 1, 1) := by decide +kernel
theorem dDu_read_1 : decode bDu_read 1 = .ok (.ifCond .lt 14, 3) := by decide +kernel
theorem dDu_read_4 : decode bDu_read 4 = .ok (.iload_n 1, 1) := by decide +kernel
theorem dDu_read_5 : decode bDu_read 5 = .ok (.aload_n 0, 1) := by decide +kernel
theorem dDu_read_6 : decode bDu_read 6 = .ok (.getfield 29, 3) := by decide +kernel
theorem dDu_read_9 : decode bDu_read 9 = .ok (.getfield 183, 3) := by decide +kernel
theorem dDu_read_12 : decode bDu_read 12 = .ok (.if_icmp .lt 13, 3) := by decide +kernel
theorem dDu_read_15 : decode bDu_read 15 = .ok (.new 186, 3) := by decide +kernel
theorem dDu_read_18 : decode bDu_read 18 = .ok (.dup, 1) := by decide +kernel
theorem dDu_read_19 : decode bDu_read 19 = .ok (.ldc 188, 2) := by decide +kernel
theorem dDu_read_21 : decode bDu_read 21 = .ok (.invokespecial 190, 3) := by decide +kernel
theorem dDu_read_24 : decode bDu_read 24 = .ok (.athrow, 1) := by decide +kernel
theorem dDu_read_25 : decode bDu_read 25 = .ok (.iload_n 2, 1) := by decide +kernel
theorem dDu_read_26 : decode bDu_read 26 = .ok (.tableswitch 88 0 4 #[34, 45, 56, 66, 77], 34) := by decide +kernel
theorem dDu_read_60 : decode bDu_read 60 = .ok (.aload_n 0, 1) := by decide +kernel
theorem dDu_read_61 : decode bDu_read 61 = .ok (.getfield 29, 3) := by decide +kernel
theorem dDu_read_64 : decode bDu_read 64 = .ok (.getfield 191, 3) := by decide +kernel
theorem dDu_read_67 : decode bDu_read 67 = .ok (.iload_n 1, 1) := by decide +kernel
theorem dDu_read_68 : decode bDu_read 68 = .ok (.iaload, 1) := by decide +kernel
theorem dDu_read_69 : decode bDu_read 69 = .ok (.i2l, 1) := by decide +kernel
theorem dDu_read_70 : decode bDu_read 70 = .ok (.lreturn, 1) := by decide +kernel
theorem dDu_read_71 : decode bDu_read 71 = .ok (.aload_n 0, 1) := by decide +kernel
theorem dDu_read_72 : decode bDu_read 72 = .ok (.getfield 29, 3) := by decide +kernel
theorem dDu_read_75 : decode bDu_read 75 = .ok (.getfield 194, 3) := by decide +kernel
theorem dDu_read_78 : decode bDu_read 78 = .ok (.iload_n 1, 1) := by decide +kernel
theorem dDu_read_79 : decode bDu_read 79 = .ok (.iaload, 1) := by decide +kernel
theorem dDu_read_80 : decode bDu_read 80 = .ok (.i2l, 1) := by decide +kernel
theorem dDu_read_81 : decode bDu_read 81 = .ok (.lreturn, 1) := by decide +kernel
theorem dDu_read_82 : decode bDu_read 82 = .ok (.aload_n 0, 1) := by decide +kernel
theorem dDu_read_83 : decode bDu_read 83 = .ok (.getfield 29, 3) := by decide +kernel
theorem dDu_read_86 : decode bDu_read 86 = .ok (.getfield 197, 3) := by decide +kernel
theorem dDu_read_89 : decode bDu_read 89 = .ok (.iload_n 1, 1) := by decide +kernel
theorem dDu_read_90 : decode bDu_read 90 = .ok (.laload, 1) := by decide +kernel
theorem dDu_read_91 : decode bDu_read 91 = .ok (.lreturn, 1) := by decide +kernel
theorem dDu_read_92 : decode bDu_read 92 = .ok (.aload_n 0, 1) := by decide +kernel
theorem dDu_read_93 : decode bDu_read 93 = .ok (.getfield 29, 3) := by decide +kernel
theorem dDu_read_96 : decode bDu_read 96 = .ok (.getfield 201, 3) := by decide +kernel
theorem dDu_read_99 : decode bDu_read 99 = .ok (.iload_n 1, 1) := by decide +kernel
theorem dDu_read_100 : decode bDu_read 100 = .ok (.iaload, 1) := by decide +kernel
theorem dDu_read_101 : decode bDu_read 101 = .ok (.i2l, 1) := by decide +kernel
theorem dDu_read_102 : decode bDu_read 102 = .ok (.lreturn, 1) := by decide +kernel
theorem dDu_read_103 : decode bDu_read 103 = .ok (.aload_n 0, 1) := by decide +kernel
theorem dDu_read_104 : decode bDu_read 104 = .ok (.getfield 29, 3) := by decide +kernel
theorem dDu_read_107 : decode bDu_read 107 = .ok (.getfield 204, 3) := by decide +kernel
theorem dDu_read_110 : decode bDu_read 110 = .ok (.iload_n 1, 1) := by decide +kernel
theorem dDu_read_111 : decode bDu_read 111 = .ok (.iaload, 1) := by decide +kernel
theorem dDu_read_112 : decode bDu_read 112 = .ok (.i2l, 1) := by decide +kernel
theorem dDu_read_113 : decode bDu_read 113 = .ok (.lreturn, 1) := by decide +kernel
theorem dDu_read_114 : decode bDu_read 114 = .ok (.new 186, 3) := by decide +kernel
theorem dDu_read_117 : decode bDu_read 117 = .ok (.dup, 1) := by decide +kernel
theorem dDu_read_118 : decode bDu_read 118 = .ok (.ldc 207, 2) := by decide +kernel
theorem dDu_read_120 : decode bDu_read 120 = .ok (.invokespecial 190, 3) := by decide +kernel
theorem dDu_read_123 : decode bDu_read 123 = .ok (.athrow, 1) := by decide +kernel
theorem dDu_look_0 : decode bDu_look 0 = .ok (.aload_n 0, 1) := by decide +kernel
theorem dDu_look_1 : decode bDu_look 1 = .ok (.iload_n 1, 1) := by decide +kernel
theorem dDu_look_2 : decode bDu_look 2 = .ok (.invokevirtual 209, 3) := by decide +kernel
theorem dDu_look_5 : decode bDu_look 5 = .ok (.astore_n 3, 1) := by decide +kernel
theorem dDu_look_6 : decode bDu_look 6 = .ok (.aload_n 3, 1) := by decide +kernel
theorem dDu_look_7 : decode bDu_look 7 = .ok (.ifnonnull 13, 3) := by decide +kernel
theorem dDu_look_10 : decode bDu_look 10 = .ok (.new 186, 3) := by decide +kernel
theorem dDu_look_13 : decode bDu_look 13 = .ok (.dup, 1) := by decide +kernel
theorem dDu_look_14 : decode bDu_look 14 = .ok (.ldc 213, 2) := by decide +kernel
theorem dDu_look_16 : decode bDu_look 16 = .ok (.invokespecial 190, 3) := by decide +kernel
theorem dDu_look_19 : decode bDu_look 19 = .ok (.athrow, 1) := by decide +kernel
theorem dDu_look_20 : decode bDu_look 20 = .ok (.iload_n 2, 1) := by decide +kernel
theorem dDu_look_21 : decode bDu_look 21 = .ok (.tableswitch 86 0 6 #[43, 48, 53, 58, 63, 76, 81], 43) := by decide +kernel
theorem dDu_look_64 : decode bDu_look 64 = .ok (.aload_n 3, 1) := by decide +kernel
theorem dDu_look_65 : decode bDu_look 65 = .ok (.getfield 215, 3) := by decide +kernel
theorem dDu_look_68 : decode bDu_look 68 = .ok (.ireturn, 1) := by decide +kernel
theorem dDu_look_69 : decode bDu_look 69 = .ok (.aload_n 3, 1) := by decide +kernel
theorem dDu_look_70 : decode bDu_look 70 = .ok (.getfield 218, 3) := by decide +kernel
theorem dDu_look_73 : decode bDu_look 73 = .ok (.ireturn, 1) := by decide +kernel
theorem dDu_look_74 : decode bDu_look 74 = .ok (.aload_n 3, 1) := by decide +kernel
theorem dDu_look_75 : decode bDu_look 75 = .ok (.getfield 129, 3) := by decide +kernel
theorem dDu_look_78 : decode bDu_look 78 = .ok (.ireturn, 1) := by decide +kernel
theorem dDu_look_79 : decode bDu_look 79 = .ok (.aload_n 3, 1) := by decide +kernel
theorem dDu_look_80 : decode bDu_look 80 = .ok (.getfield 132, 3) := by decide +kernel
theorem dDu_look_83 : decode bDu_look 83 = .ok (.ireturn, 1) := by decide +kernel
theorem dDu_look_84 : decode bDu_look 84 = .ok (.aload_n 3, 1) := by decide +kernel
theorem dDu_look_85 : decode bDu_look 85 = .ok (.getfield 100, 3) := by decide +kernel
theorem dDu_look_88 : decode bDu_look 88 = .ok (.ifCond .eq 7, 3) := by decide +kernel
theorem dDu_look_91 : decode bDu_look 91 = .ok (.iconst 1, 1) := by decide +kernel
theorem dDu_look_92 : decode bDu_look 92 = .ok (.goto 4, 3) := by decide +kernel
theorem dDu_look_95 : decode bDu_look 95 = .ok (.iconst 0, 1) := by decide +kernel
theorem dDu_look_96 : decode bDu_look 96 = .ok (.ireturn, 1) := by decide +kernel
theorem dDu_look_97 : decode bDu_look 97 = .ok (.aload_n 3, 1) := by decide +kernel
theorem dDu_look_98 : decode bDu_look 98 = .ok (.getfield 219, 3) := by decide +kernel
theorem dDu_look_101 : decode bDu_look 101 = .ok (.ireturn, 1) := by decide +kernel
theorem dDu_look_102 : decode bDu_look 102 = .ok (.aload_n 3, 1) := by decide +kernel
theorem dDu_look_103 : decode bDu_look 103 = .ok (.getfield 222, 3) := by decide +kernel
theorem dDu_look_106 : decode bDu_look 106 = .ok (.ireturn, 1) := by decide +kernel
theorem dDu_look_107 : decode bDu_look 107 = .ok (.new 186, 3) := by decide +kernel
theorem dDu_look_110 : decode bDu_look 110 = .ok (.dup, 1) := by decide +kernel
theorem dDu_look_111 : decode bDu_look 111 = .ok (.ldc 207, 2) := by decide +kernel
theorem dDu_look_113 : decode bDu_look 113 = .ok (.invokespecial 190, 3) := by decide +kernel
theorem dDu_look_116 : decode bDu_look 116 = .ok (.athrow, 1) := by decide +kernel
