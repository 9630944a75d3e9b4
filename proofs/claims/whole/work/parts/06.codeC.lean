theorem dMo_init_0 : decode bMo_init 0 = .ok (.aload_n 0, 1) := by decide +kernel
theorem dMo_init_1 : decode bMo_init 1 = .ok (.invokespecial 1, 3) := by decide +kernel
theorem dMo_init_4 : decode bMo_init 4 = .ok (.aload_n 0, 1) := by decide +kernel
theorem dMo_init_5 : decode bMo_init 5 = .ok (.iconst (-1), 1) := by decide +kernel
theorem dMo_init_6 : decode bMo_init 6 = .ok (.putfield 9, 3) := by decide +kernel
theorem dMo_init_9 : decode bMo_init 9 = .ok (.aload_n 0, 1) := by decide +kernel
theorem dMo_init_10 : decode bMo_init 10 = .ok (.iconst (-1), 1) := by decide +kernel
theorem dMo_init_11 : decode bMo_init 11 = .ok (.putfield 13, 3) := by decide +kernel
theorem dMo_init_14 : decode bMo_init 14 = .ok (.aload_n 0, 1) := by decide +kernel
theorem dMo_init_15 : decode bMo_init 15 = .ok (.iconst (-1), 1) := by decide +kernel
theorem dMo_init_16 : decode bMo_init 16 = .ok (.putfield 16, 3) := by decide +kernel
theorem dMo_init_19 : decode bMo_init 19 = .ok (.aload_n 0, 1) := by decide +kernel
theorem dMo_init_20 : decode bMo_init 20 = .ok (.bipush 12, 2) := by decide +kernel
theorem dMo_init_22 : decode bMo_init 22 = .ok (.newarray .int, 2) := by decide +kernel
theorem dMo_init_24 : decode bMo_init 24 = .ok (.putfield 19, 3) := by decide +kernel
theorem dMo_init_27 : decode bMo_init 27 = .ok (.aload_n 0, 1) := by decide +kernel
theorem dMo_init_28 : decode bMo_init 28 = .ok (.bipush 100, 2) := by decide +kernel
theorem dMo_init_30 : decode bMo_init 30 = .ok (.newarray .int, 2) := by decide +kernel
theorem dMo_init_32 : decode bMo_init 32 = .ok (.putfield 23, 3) := by decide +kernel
theorem dMo_init_35 : decode bMo_init 35 = .ok (.aload_n 0, 1) := by decide +kernel
theorem dMo_init_36 : decode bMo_init 36 = .ok (.bipush 100, 2) := by decide +kernel
theorem dMo_init_38 : decode bMo_init 38 = .ok (.newarray .int, 2) := by decide +kernel
theorem dMo_init_40 : decode bMo_init 40 = .ok (.putfield 26, 3) := by decide +kernel
theorem dMo_init_43 : decode bMo_init 43 = .ok (.aload_n 0, 1) := by decide +kernel
theorem dMo_init_44 : decode bMo_init 44 = .ok (.bipush 100, 2) := by decide +kernel
theorem dMo_init_46 : decode bMo_init 46 = .ok (.newarray .int, 2) := by decide +kernel
theorem dMo_init_48 : decode bMo_init 48 = .ok (.putfield 29, 3) := by decide +kernel
theorem dMo_init_51 : decode bMo_init 51 = .ok (.aload_n 0, 1) := by decide +kernel
theorem dMo_init_52 : decode bMo_init 52 = .ok (.bipush 100, 2) := by decide +kernel
theorem dMo_init_54 : decode bMo_init 54 = .ok (.newarray .int, 2) := by decide +kernel
theorem dMo_init_56 : decode bMo_init 56 = .ok (.putfield 32, 3) := by decide +kernel
theorem dMo_init_59 : decode bMo_init 59 = .ok (.aload_n 0, 1) := by decide +kernel
theorem dMo_init_60 : decode bMo_init 60 = .ok (.bipush 100, 2) := by decide +kernel
theorem dMo_init_62 : decode bMo_init 62 = .ok (.newarray .int, 2) := by decide +kernel
theorem dMo_init_64 : decode bMo_init 64 = .ok (.putfield 35, 3) := by decide +kernel
theorem dMo_init_67 : decode bMo_init 67 = .ok (.aload_n 0, 1) := by decide +kernel
theorem dMo_init_68 : decode bMo_init 68 = .ok (.bipush 100, 2) := by decide +kernel
theorem dMo_init_70 : decode bMo_init 70 = .ok (.newarray .boolean, 2) := by decide +kernel
theorem dMo_init_72 : decode bMo_init 72 = .ok (.putfield 38, 3) := by decide +kernel
theorem dMo_init_75 : decode bMo_init 75 = .ok (.aload_n 0, 1) := by decide +kernel
theorem dMo_init_76 : decode bMo_init 76 = .ok (.bipush 100, 2) := by decide +kernel
theorem dMo_init_78 : decode bMo_init 78 = .ok (.newarray .int, 2) := by decide +kernel
theorem dMo_init_80 : decode bMo_init 80 = .ok (.putfield 42, 3) := by decide +kernel
theorem dMo_init_83 : decode bMo_init 83 = .ok (.aload_n 0, 1) := by decide +kernel
theorem dMo_init_84 : decode bMo_init 84 = .ok (.sipush 2000, 3) := by decide +kernel
theorem dMo_init_87 : decode bMo_init 87 = .ok (.newarray .int, 2) := by decide +kernel
theorem dMo_init_89 : decode bMo_init 89 = .ok (.putfield 45, 3) := by decide +kernel
theorem dMo_init_92 : decode bMo_init 92 = .ok (.aload_n 0, 1) := by decide +kernel
theorem dMo_init_93 : decode bMo_init 93 = .ok (.sipush 2000, 3) := by decide +kernel
theorem dMo_init_96 : decode bMo_init 96 = .ok (.newarray .long, 2) := by decide +kernel
theorem dMo_init_98 : decode bMo_init 98 = .ok (.putfield 48, 3) := by decide +kernel
theorem dMo_init_101 : decode bMo_init 101 = .ok (.aload_n 0, 1) := by decide +kernel
theorem dMo_init_102 : decode bMo_init 102 = .ok (.sipush 400, 3) := by decide +kernel
theorem dMo_init_105 : decode bMo_init 105 = .ok (.newarray .int, 2) := by decide +kernel
theorem dMo_init_107 : decode bMo_init 107 = .ok (.putfield 52, 3) := by decide +kernel
theorem dMo_init_110 : decode bMo_init 110 = .ok (.aload_n 0, 1) := by decide +kernel
theorem dMo_init_111 : decode bMo_init 111 = .ok (.bipush 24, 2) := by decide +kernel
theorem dMo_init_113 : decode bMo_init 113 = .ok (.newarray .int, 2) := by decide +kernel
theorem dMo_init_115 : decode bMo_init 115 = .ok (.putfield 55, 3) := by decide +kernel
theorem dMo_init_118 : decode bMo_init 118 = .ok (.aload_n 0, 1) := by decide +kernel
theorem dMo_init_119 : decode bMo_init 119 = .ok (.bipush 6, 2) := by decide +kernel
theorem dMo_init_121 : decode bMo_init 121 = .ok (.newarray .int, 2) := by decide +kernel
theorem dMo_init_123 : decode bMo_init 123 = .ok (.putfield 58, 3) := by decide +kernel
theorem dMo_init_126 : decode bMo_init 126 = .ok (.return_, 1) := by decide +kernel
theorem dMo_thrown_0 : decode bMo_thrown 0 = .ok (.aload_n 0, 1) := by decide +kernel
theorem dMo_thrown_1 : decode bMo_thrown 1 = .ok (.getfield 61, 3) := by decide +kernel
theorem dMo_thrown_4 : decode bMo_thrown 4 = .ok (.ireturn, 1) := by decide +kernel
theorem dMo_account_0 : decode bMo_account 0 = .ok (.aload_n 0, 1) := by decide +kernel
theorem dMo_account_1 : decode bMo_account 1 = .ok (.iload_n 1, 1) := by decide +kernel
theorem dMo_account_2 : decode bMo_account 2 = .ok (.invokestatic 78, 3) := by decide +kernel
theorem dMo_account_5 : decode bMo_account 5 = .ok (.ifCond .ne 7, 3) := by decide +kernel
theorem dMo_account_8 : decode bMo_account 8 = .ok (.iconst 1, 1) := by decide +kernel
theorem dMo_account_9 : decode bMo_account 9 = .ok (.goto 17, 3) := by decide +kernel
theorem dMo_account_12 : decode bMo_account 12 = .ok (.aload_n 0, 1) := by decide +kernel
theorem dMo_account_13 : decode bMo_account 13 = .ok (.getfield 72, 3) := by decide +kernel
theorem dMo_account_16 : decode bMo_account 16 = .ok (.bipush 12, 2) := by decide +kernel
theorem dMo_account_18 : decode bMo_account 18 = .ok (.if_icmp .ne 7, 3) := by decide +kernel
theorem dMo_account_21 : decode bMo_account 21 = .ok (.iconst 2, 1) := by decide +kernel
theorem dMo_account_22 : decode bMo_account 22 = .ok (.goto 4, 3) := by decide +kernel
theorem dMo_account_25 : decode bMo_account 25 = .ok (.iconst 0, 1) := by decide +kernel
theorem dMo_account_26 : decode bMo_account 26 = .ok (.putfield 61, 3) := by decide +kernel
theorem dMo_account_29 : decode bMo_account 29 = .ok (.aload_n 0, 1) := by decide +kernel
theorem dMo_account_30 : decode bMo_account 30 = .ok (.getfield 61, 3) := by decide +kernel
theorem dMo_account_33 : decode bMo_account 33 = .ok (.ifCond .le 5, 3) := by decide +kernel
theorem dMo_account_36 : decode bMo_account 36 = .ok (.iconst 0, 1) := by decide +kernel
theorem dMo_account_37 : decode bMo_account 37 = .ok (.ireturn, 1) := by decide +kernel
theorem dMo_account_38 : decode bMo_account 38 = .ok (.aload_n 0, 1) := by decide +kernel
theorem dMo_account_39 : decode bMo_account 39 = .ok (.getfield 19, 3) := by decide +kernel
theorem dMo_account_42 : decode bMo_account 42 = .ok (.aload_n 0, 1) := by decide +kernel
theorem dMo_account_43 : decode bMo_account 43 = .ok (.getfield 72, 3) := by decide +kernel
theorem dMo_account_46 : decode bMo_account 46 = .ok (.iload_n 1, 1) := by decide +kernel
theorem dMo_account_47 : decode bMo_account 47 = .ok (.iastore, 1) := by decide +kernel
theorem dMo_account_48 : decode bMo_account 48 = .ok (.aload_n 0, 1) := by decide +kernel
theorem dMo_account_49 : decode bMo_account 49 = .ok (.dup, 1) := by decide +kernel
theorem dMo_account_50 : decode bMo_account 50 = .ok (.getfield 72, 3) := by decide +kernel
theorem dMo_account_53 : decode bMo_account 53 = .ok (.iconst 1, 1) := by decide +kernel
theorem dMo_account_54 : decode bMo_account 54 = .ok (.iadd, 1) := by decide +kernel
theorem dMo_account_55 : decode bMo_account 55 = .ok (.putfield 72, 3) := by decide +kernel
theorem dMo_account_58 : decode bMo_account 58 = .ok (.aload_n 0, 1) := by decide +kernel
theorem dMo_account_59 : decode bMo_account 59 = .ok (.getfield 72, 3) := by decide +kernel
theorem dMo_account_62 : decode bMo_account 62 = .ok (.iconst 1, 1) := by decide +kernel
theorem dMo_account_63 : decode bMo_account 63 = .ok (.isub, 1) := by decide +kernel
theorem dMo_account_64 : decode bMo_account 64 = .ok (.ireturn, 1) := by decide +kernel
theorem dMo_isKind_0 : decode bMo_isKind 0 = .ok (.iload_n 0, 1) := by decide +kernel
theorem dMo_isKind_1 : decode bMo_isKind 1 = .ok (.i2l, 1) := by decide +kernel
theorem dMo_isKind_2 : decode bMo_isKind 2 = .ok (.lconst 0, 1) := by decide +kernel
theorem dMo_isKind_3 : decode bMo_isKind 3 = .ok (.ldc2_w 70, 3) := by decide +kernel
theorem dMo_isKind_6 : decode bMo_isKind 6 = .ok (.invokestatic 66, 3) := by decide +kernel
theorem dMo_isKind_9 : decode bMo_isKind 9 = .ok (.ireturn, 1) := by decide +kernel
theorem dMo_in_0 : decode bMo_in 0 = .ok (.lload_n 0, 1) := by decide +kernel
theorem dMo_in_1 : decode bMo_in 1 = .ok (.lload_n 2, 1) := by decide +kernel
theorem dMo_in_2 : decode bMo_in 2 = .ok (.lcmp, 1) := by decide +kernel
theorem dMo_in_3 : decode bMo_in 3 = .ok (.ifCond .lt 14, 3) := by decide +kernel
theorem dMo_in_6 : decode bMo_in 6 = .ok (.lload_n 0, 1) := by decide +kernel
theorem dMo_in_7 : decode bMo_in 7 = .ok (.lload 4, 2) := by decide +kernel
theorem dMo_in_9 : decode bMo_in 9 = .ok (.lcmp, 1) := by decide +kernel
theorem dMo_in_10 : decode bMo_in 10 = .ok (.ifCond .gt 7, 3) := by decide +kernel
theorem dMo_in_13 : decode bMo_in 13 = .ok (.iconst 1, 1) := by decide +kernel
theorem dMo_in_14 : decode bMo_in 14 = .ok (.goto 4, 3) := by decide +kernel
theorem dMo_in_17 : decode bMo_in 17 = .ok (.iconst 0, 1) := by decide +kernel
theorem dMo_in_18 : decode bMo_in 18 = .ok (.ireturn, 1) := by decide +kernel
theorem dMo_batch_0 : decode bMo_batch 0 = .ok (.aload_n 0, 1) := by decide +kernel
theorem dMo_batch_1 : decode bMo_batch 1 = .ok (.iload_n 1, 1) := by decide +kernel
theorem dMo_batch_2 : decode bMo_batch 2 = .ok (.invokestatic 82, 3) := by decide +kernel
theorem dMo_batch_5 : decode bMo_batch 5 = .ok (.ifCond .eq 10, 3) := by decide +kernel
theorem dMo_batch_8 : decode bMo_batch 8 = .ok (.iload_n 2, 1) := by decide +kernel
theorem dMo_batch_9 : decode bMo_batch 9 = .ok (.invokestatic 82, 3) := by decide +kernel
theorem dMo_batch_12 : decode bMo_batch 12 = .ok (.ifCond .ne 7, 3) := by decide +kernel
theorem dMo_batch_15 : decode bMo_batch 15 = .ok (.iconst 1, 1) := by decide +kernel
theorem dMo_batch_16 : decode bMo_batch 16 = .ok (.goto 17, 3) := by decide +kernel
theorem dMo_batch_19 : decode bMo_batch 19 = .ok (.aload_n 0, 1) := by decide +kernel
theorem dMo_batch_20 : decode bMo_batch 20 = .ok (.getfield 75, 3) := by decide +kernel
theorem dMo_batch_23 : decode bMo_batch 23 = .ok (.bipush 100, 2) := by decide +kernel
theorem dMo_batch_25 : decode bMo_batch 25 = .ok (.if_icmp .ne 7, 3) := by decide +kernel
theorem dMo_batch_28 : decode bMo_batch 28 = .ok (.iconst 2, 1) := by decide +kernel
theorem dMo_batch_29 : decode bMo_batch 29 = .ok (.goto 4, 3) := by decide +kernel
theorem dMo_batch_32 : decode bMo_batch 32 = .ok (.iconst 0, 1) := by decide +kernel
theorem dMo_batch_33 : decode bMo_batch 33 = .ok (.putfield 61, 3) := by decide +kernel
theorem dMo_batch_36 : decode bMo_batch 36 = .ok (.aload_n 0, 1) := by decide +kernel
theorem dMo_batch_37 : decode bMo_batch 37 = .ok (.getfield 61, 3) := by decide +kernel
theorem dMo_batch_40 : decode bMo_batch 40 = .ok (.ifCond .le 5, 3) := by decide +kernel
theorem dMo_batch_43 : decode bMo_batch 43 = .ok (.iconst 0, 1) := by decide +kernel
theorem dMo_batch_44 : decode bMo_batch 44 = .ok (.ireturn, 1) := by decide +kernel
theorem dMo_batch_45 : decode bMo_batch 45 = .ok (.aload_n 0, 1) := by decide +kernel
theorem dMo_batch_46 : decode bMo_batch 46 = .ok (.aload_n 0, 1) := by decide +kernel
theorem dMo_batch_47 : decode bMo_batch 47 = .ok (.getfield 75, 3) := by decide +kernel
theorem dMo_batch_50 : decode bMo_batch 50 = .ok (.iload_n 1, 1) := by decide +kernel
theorem dMo_batch_51 : decode bMo_batch 51 = .ok (.iload_n 2, 1) := by decide +kernel
theorem dMo_batch_52 : decode bMo_batch 52 = .ok (.invokevirtual 85, 3) := by decide +kernel
theorem dMo_batch_55 : decode bMo_batch 55 = .ok (.aload_n 0, 1) := by decide +kernel
theorem dMo_batch_56 : decode bMo_batch 56 = .ok (.dup, 1) := by decide +kernel
theorem dMo_batch_57 : decode bMo_batch 57 = .ok (.getfield 75, 3) := by decide +kernel
theorem dMo_batch_60 : decode bMo_batch 60 = .ok (.iconst 1, 1) := by decide +kernel
theorem dMo_batch_61 : decode bMo_batch 61 = .ok (.iadd, 1) := by decide +kernel
theorem dMo_batch_62 : decode bMo_batch 62 = .ok (.putfield 75, 3) := by decide +kernel
theorem dMo_batch_65 : decode bMo_batch 65 = .ok (.aload_n 0, 1) := by decide +kernel
theorem dMo_batch_66 : decode bMo_batch 66 = .ok (.getfield 75, 3) := by decide +kernel
theorem dMo_batch_69 : decode bMo_batch 69 = .ok (.iconst 1, 1) := by decide +kernel
theorem dMo_batch_70 : decode bMo_batch 70 = .ok (.isub, 1) := by decide +kernel
theorem dMo_batch_71 : decode bMo_batch 71 = .ok (.ireturn, 1) := by decide +kernel
theorem dMo_isDay_0 : decode bMo_isDay 0 = .ok (.iload_n 0, 1) := by decide +kernel
theorem dMo_isDay_1 : decode bMo_isDay 1 = .ok (.i2l, 1) := by decide +kernel
theorem dMo_isDay_2 : decode bMo_isDay 2 = .ok (.lconst 0, 1) := by decide +kernel
theorem dMo_isDay_3 : decode bMo_isDay 3 = .ok (.ldc2_w 64, 3) := by decide +kernel
theorem dMo_isDay_6 : decode bMo_isDay 6 = .ok (.invokestatic 66, 3) := by decide +kernel
theorem dMo_isDay_9 : decode bMo_isDay 9 = .ok (.ireturn, 1) := by decide +kernel
theorem dMo_begin_0 : decode bMo_begin 0 = .ok (.aload_n 0, 1) := by decide +kernel
theorem dMo_begin_1 : decode bMo_begin 1 = .ok (.getfield 23, 3) := by decide +kernel
theorem dMo_begin_4 : decode bMo_begin 4 = .ok (.iload_n 1, 1) := by decide +kernel
theorem dMo_begin_5 : decode bMo_begin 5 = .ok (.iconst 0, 1) := by decide +kernel
theorem dMo_begin_6 : decode bMo_begin 6 = .ok (.iastore, 1) := by decide +kernel
theorem dMo_begin_7 : decode bMo_begin 7 = .ok (.aload_n 0, 1) := by decide +kernel
theorem dMo_begin_8 : decode bMo_begin 8 = .ok (.getfield 26, 3) := by decide +kernel
theorem dMo_begin_11 : decode bMo_begin 11 = .ok (.iload_n 1, 1) := by decide +kernel
theorem dMo_begin_12 : decode bMo_begin 12 = .ok (.iload_n 2, 1) := by decide +kernel
theorem dMo_begin_13 : decode bMo_begin 13 = .ok (.iastore, 1) := by decide +kernel
theorem dMo_begin_14 : decode bMo_begin 14 = .ok (.aload_n 0, 1) := by decide +kernel
theorem dMo_begin_15 : decode bMo_begin 15 = .ok (.getfield 29, 3) := by decide +kernel
theorem dMo_begin_18 : decode bMo_begin 18 = .ok (.iload_n 1, 1) := by decide +kernel
theorem dMo_begin_19 : decode bMo_begin 19 = .ok (.iload_n 3, 1) := by decide +kernel
theorem dMo_begin_20 : decode bMo_begin 20 = .ok (.iastore, 1) := by decide +kernel
theorem dMo_begin_21 : decode bMo_begin 21 = .ok (.aload_n 0, 1) := by decide +kernel
theorem dMo_begin_22 : decode bMo_begin 22 = .ok (.getfield 32, 3) := by decide +kernel
theorem dMo_begin_25 : decode bMo_begin 25 = .ok (.iload_n 1, 1) := by decide +kernel
theorem dMo_begin_26 : decode bMo_begin 26 = .ok (.iconst (-1), 1) := by decide +kernel
theorem dMo_begin_27 : decode bMo_begin 27 = .ok (.iastore, 1) := by decide +kernel
theorem dMo_begin_28 : decode bMo_begin 28 = .ok (.aload_n 0, 1) := by decide +kernel
theorem dMo_begin_29 : decode bMo_begin 29 = .ok (.getfield 35, 3) := by decide +kernel
theorem dMo_begin_32 : decode bMo_begin 32 = .ok (.iload_n 1, 1) := by decide +kernel
theorem dMo_begin_33 : decode bMo_begin 33 = .ok (.iconst (-1), 1) := by decide +kernel
theorem dMo_begin_34 : decode bMo_begin 34 = .ok (.iastore, 1) := by decide +kernel
theorem dMo_begin_35 : decode bMo_begin 35 = .ok (.aload_n 0, 1) := by decide +kernel
theorem dMo_begin_36 : decode bMo_begin 36 = .ok (.getfield 38, 3) := by decide +kernel
theorem dMo_begin_39 : decode bMo_begin 39 = .ok (.iload_n 1, 1) := by decide +kernel
theorem dMo_begin_40 : decode bMo_begin 40 = .ok (.iconst 0, 1) := by decide +kernel
theorem dMo_begin_41 : decode bMo_begin 41 = .ok (.bastore, 1) := by decide +kernel
theorem dMo_begin_42 : decode bMo_begin 42 = .ok (.aload_n 0, 1) := by decide +kernel
theorem dMo_begin_43 : decode bMo_begin 43 = .ok (.getfield 42, 3) := by decide +kernel
theorem dMo_begin_46 : decode bMo_begin 46 = .ok (.iload_n 1, 1) := by decide +kernel
theorem dMo_begin_47 : decode bMo_begin 47 = .ok (.iconst 0, 1) := by decide +kernel
theorem dMo_begin_48 : decode bMo_begin 48 = .ok (.iastore, 1) := by decide +kernel
theorem dMo_begin_49 : decode bMo_begin 49 = .ok (.return_, 1) := by decide +kernel
theorem dMo_row_0 : decode bMo_row 0 = .ok (.aload_n 0, 1) := by decide +kernel
theorem dMo_row_1 : decode bMo_row 1 = .ok (.iconst 0, 1) := by decide +kernel
theorem dMo_row_2 : decode bMo_row 2 = .ok (.putfield 61, 3) := by decide +kernel
theorem dMo_row_5 : decode bMo_row 5 = .ok (.aload_n 0, 1) := by decide +kernel
theorem dMo_row_6 : decode bMo_row 6 = .ok (.iload_n 1, 1) := by decide +kernel
theorem dMo_row_7 : decode bMo_row 7 = .ok (.invokevirtual 89, 3) := by decide +kernel
theorem dMo_row_10 : decode bMo_row 10 = .ok (.ifCond .eq 41, 3) := by decide +kernel
theorem dMo_row_13 : decode bMo_row 13 = .ok (.aload_n 0, 1) := by decide +kernel
theorem dMo_row_14 : decode bMo_row 14 = .ok (.iload_n 2, 1) := by decide +kernel
theorem dMo_row_15 : decode bMo_row 15 = .ok (.invokevirtual 92, 3) := by decide +kernel
theorem dMo_row_18 : decode bMo_row 18 = .ok (.ifCond .eq 33, 3) := by decide +kernel
theorem dMo_row_21 : decode bMo_row 21 = .ok (.lload_n 3, 1) := by decide +kernel
theorem dMo_row_22 : decode bMo_row 22 = .ok (.lconst 0, 1) := by decide +kernel
theorem dMo_row_23 : decode bMo_row 23 = .ok (.lcmp, 1) := by decide +kernel
theorem dMo_row_24 : decode bMo_row 24 = .ok (.ifCond .eq 27, 3) := by decide +kernel
theorem dMo_row_27 : decode bMo_row 27 = .ok (.lload_n 3, 1) := by decide +kernel
theorem dMo_row_28 : decode bMo_row 28 = .ok (.ldc2_w 95, 3) := by decide +kernel
theorem dMo_row_31 : decode bMo_row 31 = .ok (.ldc2_w 97, 3) := by decide +kernel
theorem dMo_row_34 : decode bMo_row 34 = .ok (.invokestatic 66, 3) := by decide +kernel
theorem dMo_row_37 : decode bMo_row 37 = .ok (.ifCond .eq 14, 3) := by decide +kernel
theorem dMo_row_40 : decode bMo_row 40 = .ok (.aload_n 0, 1) := by decide +kernel
theorem dMo_row_41 : decode bMo_row 41 = .ok (.getfield 42, 3) := by decide +kernel
theorem dMo_row_44 : decode bMo_row 44 = .ok (.iload_n 1, 1) := by decide +kernel
theorem dMo_row_45 : decode bMo_row 45 = .ok (.iaload, 1) := by decide +kernel
theorem dMo_row_46 : decode bMo_row 46 = .ok (.bipush 20, 2) := by decide +kernel
theorem dMo_row_48 : decode bMo_row 48 = .ok (.if_icmp .ne 5, 3) := by decide +kernel
theorem dMo_row_51 : decode bMo_row 51 = .ok (.iconst 0, 1) := by decide +kernel
theorem dMo_row_52 : decode bMo_row 52 = .ok (.ireturn, 1) := by decide +kernel
theorem dMo_row_53 : decode bMo_row 53 = .ok (.aload_n 0, 1) := by decide +kernel
theorem dMo_row_54 : decode bMo_row 54 = .ok (.getfield 45, 3) := by decide +kernel
theorem dMo_row_57 : decode bMo_row 57 = .ok (.bipush 20, 2) := by decide +kernel
theorem dMo_row_59 : decode bMo_row 59 = .ok (.iload_n 1, 1) := by decide +kernel
theorem dMo_row_60 : decode bMo_row 60 = .ok (.imul, 1) := by decide +kernel
theorem dMo_row_61 : decode bMo_row 61 = .ok (.aload_n 0, 1) := by decide +kernel
theorem dMo_row_62 : decode bMo_row 62 = .ok (.getfield 42, 3) := by decide +kernel
theorem dMo_row_65 : decode bMo_row 65 = .ok (.iload_n 1, 1) := by decide +kernel
theorem dMo_row_66 : decode bMo_row 66 = .ok (.iaload, 1) := by decide +kernel
theorem dMo_row_67 : decode bMo_row 67 = .ok (.iadd, 1) := by decide +kernel
theorem dMo_row_68 : decode bMo_row 68 = .ok (.iload_n 2, 1) := by decide +kernel
theorem dMo_row_69 : decode bMo_row 69 = .ok (.iastore, 1) := by decide +kernel
theorem dMo_row_70 : decode bMo_row 70 = .ok (.aload_n 0, 1) := by decide +kernel
theorem dMo_row_71 : decode bMo_row 71 = .ok (.getfield 48, 3) := by decide +kernel
theorem dMo_row_74 : decode bMo_row 74 = .ok (.bipush 20, 2) := by decide +kernel
theorem dMo_row_76 : decode bMo_row 76 = .ok (.iload_n 1, 1) := by decide +kernel
theorem dMo_row_77 : decode bMo_row 77 = .ok (.imul, 1) := by decide +kernel
theorem dMo_row_78 : decode bMo_row 78 = .ok (.aload_n 0, 1) := by decide +kernel
theorem dMo_row_79 : decode bMo_row 79 = .ok (.getfield 42, 3) := by decide +kernel
theorem dMo_row_82 : decode bMo_row 82 = .ok (.iload_n 1, 1) := by decide +kernel
theorem dMo_row_83 : decode bMo_row 83 = .ok (.iaload, 1) := by decide +kernel
theorem dMo_row_84 : decode bMo_row 84 = .ok (.iadd, 1) := by decide +kernel
theorem dMo_row_85 : decode bMo_row 85 = .ok (.lload_n 3, 1) := by decide +kernel
theorem dMo_row_86 : decode bMo_row 86 = .ok (.lastore, 1) := by decide +kernel
theorem dMo_row_87 : decode bMo_row 87 = .ok (.aload_n 0, 1) := by decide +kernel
theorem dMo_row_88 : decode bMo_row 88 = .ok (.getfield 42, 3) := by decide +kernel
theorem dMo_row_91 : decode bMo_row 91 = .ok (.iload_n 1, 1) := by decide +kernel
theorem dMo_row_92 : decode bMo_row 92 = .ok (.dup2, 1) := by decide +kernel
theorem dMo_row_93 : decode bMo_row 93 = .ok (.iaload, 1) := by decide +kernel
theorem dMo_row_94 : decode bMo_row 94 = .ok (.iconst 1, 1) := by decide +kernel
theorem dMo_row_95 : decode bMo_row 95 = .ok (.iadd, 1) := by decide +kernel
theorem dMo_row_96 : decode bMo_row 96 = .ok (.iastore, 1) := by decide +kernel
theorem dMo_row_97 : decode bMo_row 97 = .ok (.iconst 1, 1) := by decide +kernel
theorem dMo_row_98 : decode bMo_row 98 = .ok (.ireturn, 1) := by decide +kernel
theorem dMo_isOpen_0 : decode bMo_isOpen 0 = .ok (.iload_n 1, 1) := by decide +kernel
theorem dMo_isOpen_1 : decode bMo_isOpen 1 = .ok (.ifCond .lt 24, 3) := by decide +kernel
theorem dMo_isOpen_4 : decode bMo_isOpen 4 = .ok (.iload_n 1, 1) := by decide +kernel
theorem dMo_isOpen_5 : decode bMo_isOpen 5 = .ok (.aload_n 0, 1) := by decide +kernel
theorem dMo_isOpen_6 : decode bMo_isOpen 6 = .ok (.getfield 75, 3) := by decide +kernel
theorem dMo_isOpen_9 : decode bMo_isOpen 9 = .ok (.if_icmp .ge 16, 3) := by decide +kernel
theorem dMo_isOpen_12 : decode bMo_isOpen 12 = .ok (.aload_n 0, 1) := by decide +kernel
theorem dMo_isOpen_13 : decode bMo_isOpen 13 = .ok (.getfield 23, 3) := by decide +kernel
theorem dMo_isOpen_16 : decode bMo_isOpen 16 = .ok (.iload_n 1, 1) := by decide +kernel
theorem dMo_isOpen_17 : decode bMo_isOpen 17 = .ok (.iaload, 1) := by decide +kernel
theorem dMo_isOpen_18 : decode bMo_isOpen 18 = .ok (.ifCond .ne 7, 3) := by decide +kernel
theorem dMo_isOpen_21 : decode bMo_isOpen 21 = .ok (.iconst 1, 1) := by decide +kernel
theorem dMo_isOpen_22 : decode bMo_isOpen 22 = .ok (.goto 4, 3) := by decide +kernel
theorem dMo_isOpen_25 : decode bMo_isOpen 25 = .ok (.iconst 0, 1) := by decide +kernel
theorem dMo_isOpen_26 : decode bMo_isOpen 26 = .ok (.ireturn, 1) := by decide +kernel
theorem dMo_isAccount_0 : decode bMo_isAccount 0 = .ok (.iload_n 1, 1) := by decide +kernel
theorem dMo_isAccount_1 : decode bMo_isAccount 1 = .ok (.ifCond .lt 15, 3) := by decide +kernel
theorem dMo_isAccount_4 : decode bMo_isAccount 4 = .ok (.iload_n 1, 1) := by decide +kernel
theorem dMo_isAccount_5 : decode bMo_isAccount 5 = .ok (.aload_n 0, 1) := by decide +kernel
theorem dMo_isAccount_6 : decode bMo_isAccount 6 = .ok (.getfield 72, 3) := by decide +kernel
theorem dMo_isAccount_9 : decode bMo_isAccount 9 = .ok (.if_icmp .ge 7, 3) := by decide +kernel
theorem dMo_isAccount_12 : decode bMo_isAccount 12 = .ok (.iconst 1, 1) := by decide +kernel
theorem dMo_isAccount_13 : decode bMo_isAccount 13 = .ok (.goto 4, 3) := by decide +kernel
theorem dMo_isAccount_16 : decode bMo_isAccount 16 = .ok (.iconst 0, 1) := by decide +kernel
theorem dMo_isAccount_17 : decode bMo_isAccount 17 = .ok (.ireturn, 1) := by decide +kernel
theorem dMo_fails_0 : decode bMo_fails 0 = .ok (.aload_n 0, 1) := by decide +kernel
theorem dMo_fails_1 : decode bMo_fails 1 = .ok (.iconst 0, 1) := by decide +kernel
theorem dMo_fails_2 : decode bMo_fails 2 = .ok (.putfield 61, 3) := by decide +kernel
theorem dMo_fails_5 : decode bMo_fails 5 = .ok (.aload_n 0, 1) := by decide +kernel
theorem dMo_fails_6 : decode bMo_fails 6 = .ok (.iload_n 1, 1) := by decide +kernel
theorem dMo_fails_7 : decode bMo_fails 7 = .ok (.invokevirtual 89, 3) := by decide +kernel
theorem dMo_fails_10 : decode bMo_fails 10 = .ok (.ifCond .ne 5, 3) := by decide +kernel
theorem dMo_fails_13 : decode bMo_fails 13 = .ok (.iconst 0, 1) := by decide +kernel
theorem dMo_fails_14 : decode bMo_fails 14 = .ok (.ireturn, 1) := by decide +kernel
theorem dMo_fails_15 : decode bMo_fails 15 = .ok (.aload_n 0, 1) := by decide +kernel
theorem dMo_fails_16 : decode bMo_fails 16 = .ok (.getfield 38, 3) := by decide +kernel
theorem dMo_fails_19 : decode bMo_fails 19 = .ok (.iload_n 1, 1) := by decide +kernel
theorem dMo_fails_20 : decode bMo_fails 20 = .ok (.iload_n 2, 1) := by decide +kernel
theorem dMo_fails_21 : decode bMo_fails 21 = .ok (.bastore, 1) := by decide +kernel
theorem dMo_fails_22 : decode bMo_fails 22 = .ok (.iconst 1, 1) := by decide +kernel
theorem dMo_fails_23 : decode bMo_fails 23 = .ok (.ireturn, 1) := by decide +kernel
theorem dMo_post_0 : decode bMo_post 0 = .ok (.aload_n 0, 1) := by decide +kernel
theorem dMo_post_1 : decode bMo_post 1 = .ok (.aload_n 0, 1) := by decide +kernel
theorem dMo_post_2 : decode bMo_post 2 = .ok (.iload_n 1, 1) := by decide +kernel
theorem dMo_post_3 : decode bMo_post 3 = .ok (.invokevirtual 89, 3) := by decide +kernel
theorem dMo_post_6 : decode bMo_post 6 = .ok (.ifCond .eq 7, 3) := by decide +kernel
theorem dMo_post_9 : decode bMo_post 9 = .ok (.iconst 0, 1) := by decide +kernel
theorem dMo_post_10 : decode bMo_post 10 = .ok (.goto 4, 3) := by decide +kernel
theorem dMo_post_13 : decode bMo_post 13 = .ok (.iconst 1, 1) := by decide +kernel
theorem dMo_post_14 : decode bMo_post 14 = .ok (.putfield 61, 3) := by decide +kernel
theorem dMo_post_17 : decode bMo_post 17 = .ok (.aload_n 0, 1) := by decide +kernel
theorem dMo_post_18 : decode bMo_post 18 = .ok (.getfield 61, 3) := by decide +kernel
theorem dMo_post_21 : decode bMo_post 21 = .ok (.ifCond .le 5, 3) := by decide +kernel
theorem dMo_post_24 : decode bMo_post 24 = .ok (.iconst 0, 1) := by decide +kernel
theorem dMo_post_25 : decode bMo_post 25 = .ok (.ireturn, 1) := by decide +kernel
theorem dMo_post_26 : decode bMo_post 26 = .ok (.aload_n 0, 1) := by decide +kernel
theorem dMo_post_27 : decode bMo_post 27 = .ok (.iload_n 1, 1) := by decide +kernel
theorem dMo_post_28 : decode bMo_post 28 = .ok (.invokevirtual 106, 3) := by decide +kernel
theorem dMo_post_31 : decode bMo_post 31 = .ok (.istore_n 2, 1) := by decide +kernel
theorem dMo_post_32 : decode bMo_post 32 = .ok (.iload_n 2, 1) := by decide +kernel
theorem dMo_post_33 : decode bMo_post 33 = .ok (.ifCond .le 40, 3) := by decide +kernel
theorem dMo_post_36 : decode bMo_post 36 = .ok (.aload_n 0, 1) := by decide +kernel
theorem dMo_post_37 : decode bMo_post 37 = .ok (.iconst 2, 1) := by decide +kernel
theorem dMo_post_38 : decode bMo_post 38 = .ok (.putfield 61, 3) := by decide +kernel
theorem dMo_post_41 : decode bMo_post 41 = .ok (.aload_n 0, 1) := by decide +kernel
theorem dMo_post_42 : decode bMo_post 42 = .ok (.iload_n 2, 1) := by decide +kernel
theorem dMo_post_43 : decode bMo_post 43 = .ok (.putfield 110, 3) := by decide +kernel
theorem dMo_post_46 : decode bMo_post 46 = .ok (.aload_n 0, 1) := by decide +kernel
theorem dMo_post_47 : decode bMo_post 47 = .ok (.iload_n 2, 1) := by decide +kernel
theorem dMo_post_48 : decode bMo_post 48 = .ok (.iconst 2, 1) := by decide +kernel
theorem dMo_post_49 : decode bMo_post 49 = .ok (.if_icmp .ne 11, 3) := by decide +kernel
theorem dMo_post_52 : decode bMo_post 52 = .ok (.aload_n 0, 1) := by decide +kernel
theorem dMo_post_53 : decode bMo_post 53 = .ok (.iload_n 1, 1) := by decide +kernel
theorem dMo_post_54 : decode bMo_post 54 = .ok (.invokevirtual 113, 3) := by decide +kernel
theorem dMo_post_57 : decode bMo_post 57 = .ok (.goto 4, 3) := by decide +kernel
theorem dMo_post_60 : decode bMo_post 60 = .ok (.iconst (-1), 1) := by decide +kernel
theorem dMo_post_61 : decode bMo_post 61 = .ok (.putfield 16, 3) := by decide +kernel
theorem dMo_post_64 : decode bMo_post 64 = .ok (.aload_n 0, 1) := by decide +kernel
theorem dMo_post_65 : decode bMo_post 65 = .ok (.getfield 23, 3) := by decide +kernel
theorem dMo_post_68 : decode bMo_post 68 = .ok (.iload_n 1, 1) := by decide +kernel
theorem dMo_post_69 : decode bMo_post 69 = .ok (.iconst 2, 1) := by decide +kernel
theorem dMo_post_70 : decode bMo_post 70 = .ok (.iastore, 1) := by decide +kernel
theorem dMo_post_71 : decode bMo_post 71 = .ok (.iconst 0, 1) := by decide +kernel
theorem dMo_post_72 : decode bMo_post 72 = .ok (.ireturn, 1) := by decide +kernel
theorem dMo_post_73 : decode bMo_post 73 = .ok (.aload_n 0, 1) := by decide +kernel
theorem dMo_post_74 : decode bMo_post 74 = .ok (.getfield 38, 3) := by decide +kernel
theorem dMo_post_77 : decode bMo_post 77 = .ok (.iload_n 1, 1) := by decide +kernel
theorem dMo_post_78 : decode bMo_post 78 = .ok (.baload, 1) := by decide +kernel
theorem dMo_post_79 : decode bMo_post 79 = .ok (.ifCond .eq 27, 3) := by decide +kernel
theorem dMo_post_82 : decode bMo_post 82 = .ok (.aload_n 0, 1) := by decide +kernel
theorem dMo_post_83 : decode bMo_post 83 = .ok (.iconst 3, 1) := by decide +kernel
theorem dMo_post_84 : decode bMo_post 84 = .ok (.putfield 61, 3) := by decide +kernel
theorem dMo_post_87 : decode bMo_post 87 = .ok (.aload_n 0, 1) := by decide +kernel
theorem dMo_post_88 : decode bMo_post 88 = .ok (.getfield 38, 3) := by decide +kernel
theorem dMo_post_91 : decode bMo_post 91 = .ok (.iload_n 1, 1) := by decide +kernel
theorem dMo_post_92 : decode bMo_post 92 = .ok (.iconst 0, 1) := by decide +kernel
theorem dMo_post_93 : decode bMo_post 93 = .ok (.bastore, 1) := by decide +kernel
theorem dMo_post_94 : decode bMo_post 94 = .ok (.aload_n 0, 1) := by decide +kernel
theorem dMo_post_95 : decode bMo_post 95 = .ok (.dup, 1) := by decide +kernel
theorem dMo_post_96 : decode bMo_post 96 = .ok (.getfield 116, 3) := by decide +kernel
theorem dMo_post_99 : decode bMo_post 99 = .ok (.iconst 1, 1) := by decide +kernel
theorem dMo_post_100 : decode bMo_post 100 = .ok (.iadd, 1) := by decide +kernel
theorem dMo_post_101 : decode bMo_post 101 = .ok (.putfield 116, 3) := by decide +kernel
theorem dMo_post_104 : decode bMo_post 104 = .ok (.iconst 0, 1) := by decide +kernel
theorem dMo_post_105 : decode bMo_post 105 = .ok (.ireturn, 1) := by decide +kernel
theorem dMo_post_106 : decode bMo_post 106 = .ok (.aload_n 0, 1) := by decide +kernel
theorem dMo_post_107 : decode bMo_post 107 = .ok (.iload_n 1, 1) := by decide +kernel
theorem dMo_post_108 : decode bMo_post 108 = .ok (.invokevirtual 119, 3) := by decide +kernel
theorem dMo_post_111 : decode bMo_post 111 = .ok (.iconst 1, 1) := by decide +kernel
theorem dMo_post_112 : decode bMo_post 112 = .ok (.ireturn, 1) := by decide +kernel
theorem dMo_wrongWith_0 : decode bMo_wrongWith 0 = .ok (.aload_n 0, 1) := by decide +kernel
theorem dMo_wrongWith_1 : decode bMo_wrongWith 1 = .ok (.getfield 42, 3) := by decide +kernel
theorem dMo_wrongWith_4 : decode bMo_wrongWith 4 = .ok (.iload_n 1, 1) := by decide +kernel
theorem dMo_wrongWith_5 : decode bMo_wrongWith 5 = .ok (.iaload, 1) := by decide +kernel
theorem dMo_wrongWith_6 : decode bMo_wrongWith 6 = .ok (.ifCond .ne 5, 3) := by decide +kernel
theorem dMo_wrongWith_9 : decode bMo_wrongWith 9 = .ok (.iconst 1, 1) := by decide +kernel
theorem dMo_wrongWith_10 : decode bMo_wrongWith 10 = .ok (.ireturn, 1) := by decide +kernel
theorem dMo_wrongWith_11 : decode bMo_wrongWith 11 = .ok (.aload_n 0, 1) := by decide +kernel
theorem dMo_wrongWith_12 : decode bMo_wrongWith 12 = .ok (.iload_n 1, 1) := by decide +kernel
theorem dMo_wrongWith_13 : decode bMo_wrongWith 13 = .ok (.iconst (-1), 1) := by decide +kernel
theorem dMo_wrongWith_14 : decode bMo_wrongWith 14 = .ok (.invokevirtual 99, 3) := by decide +kernel
theorem dMo_wrongWith_17 : decode bMo_wrongWith 17 = .ok (.lconst 0, 1) := by decide +kernel
theorem dMo_wrongWith_18 : decode bMo_wrongWith 18 = .ok (.lcmp, 1) := by decide +kernel
theorem dMo_wrongWith_19 : decode bMo_wrongWith 19 = .ok (.ifCond .eq 5, 3) := by decide +kernel
theorem dMo_wrongWith_22 : decode bMo_wrongWith 22 = .ok (.iconst 2, 1) := by decide +kernel
theorem dMo_wrongWith_23 : decode bMo_wrongWith 23 = .ok (.ireturn, 1) := by decide +kernel
theorem dMo_wrongWith_24 : decode bMo_wrongWith 24 = .ok (.aload_n 0, 1) := by decide +kernel
theorem dMo_wrongWith_25 : decode bMo_wrongWith 25 = .ok (.getfield 29, 3) := by decide +kernel
theorem dMo_wrongWith_28 : decode bMo_wrongWith 28 = .ok (.iload_n 1, 1) := by decide +kernel
theorem dMo_wrongWith_29 : decode bMo_wrongWith 29 = .ok (.iaload, 1) := by decide +kernel
theorem dMo_wrongWith_30 : decode bMo_wrongWith 30 = .ok (.aload_n 0, 1) := by decide +kernel
theorem dMo_wrongWith_31 : decode bMo_wrongWith 31 = .ok (.getfield 9, 3) := by decide +kernel
theorem dMo_wrongWith_34 : decode bMo_wrongWith 34 = .ok (.if_icmp .gt 5, 3) := by decide +kernel
theorem dMo_wrongWith_37 : decode bMo_wrongWith 37 = .ok (.iconst 3, 1) := by decide +kernel
theorem dMo_wrongWith_38 : decode bMo_wrongWith 38 = .ok (.ireturn, 1) := by decide +kernel
theorem dMo_wrongWith_39 : decode bMo_wrongWith 39 = .ok (.aload_n 0, 1) := by decide +kernel
theorem dMo_wrongWith_40 : decode bMo_wrongWith 40 = .ok (.getfield 29, 3) := by decide +kernel
theorem dMo_wrongWith_43 : decode bMo_wrongWith 43 = .ok (.iload_n 1, 1) := by decide +kernel
theorem dMo_wrongWith_44 : decode bMo_wrongWith 44 = .ok (.iaload, 1) := by decide +kernel
theorem dMo_wrongWith_45 : decode bMo_wrongWith 45 = .ok (.aload_n 0, 1) := by decide +kernel
theorem dMo_wrongWith_46 : decode bMo_wrongWith 46 = .ok (.getfield 13, 3) := by decide +kernel
theorem dMo_wrongWith_49 : decode bMo_wrongWith 49 = .ok (.if_icmp .ge 7, 3) := by decide +kernel
theorem dMo_wrongWith_52 : decode bMo_wrongWith 52 = .ok (.iconst 4, 1) := by decide +kernel
theorem dMo_wrongWith_53 : decode bMo_wrongWith 53 = .ok (.goto 25, 3) := by decide +kernel
theorem dMo_wrongWith_56 : decode bMo_wrongWith 56 = .ok (.aload_n 0, 1) := by decide +kernel
theorem dMo_wrongWith_57 : decode bMo_wrongWith 57 = .ok (.getfield 103, 3) := by decide +kernel
theorem dMo_wrongWith_60 : decode bMo_wrongWith 60 = .ok (.aload_n 0, 1) := by decide +kernel
theorem dMo_wrongWith_61 : decode bMo_wrongWith 61 = .ok (.getfield 42, 3) := by decide +kernel
theorem dMo_wrongWith_64 : decode bMo_wrongWith 64 = .ok (.iload_n 1, 1) := by decide +kernel
theorem dMo_wrongWith_65 : decode bMo_wrongWith 65 = .ok (.iaload, 1) := by decide +kernel
theorem dMo_wrongWith_66 : decode bMo_wrongWith 66 = .ok (.iadd, 1) := by decide +kernel
theorem dMo_wrongWith_67 : decode bMo_wrongWith 67 = .ok (.sipush 400, 3) := by decide +kernel
theorem dMo_wrongWith_70 : decode bMo_wrongWith 70 = .ok (.if_icmp .le 7, 3) := by decide +kernel
theorem dMo_wrongWith_73 : decode bMo_wrongWith 73 = .ok (.iconst 5, 1) := by decide +kernel
theorem dMo_wrongWith_74 : decode bMo_wrongWith 74 = .ok (.goto 4, 3) := by decide +kernel
theorem dMo_wrongWith_77 : decode bMo_wrongWith 77 = .ok (.iconst 0, 1) := by decide +kernel
theorem dMo_wrongWith_78 : decode bMo_wrongWith 78 = .ok (.ireturn, 1) := by decide +kernel
theorem dMo_sumIn_0 : decode bMo_sumIn 0 = .ok (.lconst 0, 1) := by decide +kernel
theorem dMo_sumIn_1 : decode bMo_sumIn 1 = .ok (.lstore_n 3, 1) := by decide +kernel
theorem dMo_sumIn_2 : decode bMo_sumIn 2 = .ok (.bipush 20, 2) := by decide +kernel
theorem dMo_sumIn_4 : decode bMo_sumIn 4 = .ok (.iload_n 1, 1) := by decide +kernel
theorem dMo_sumIn_5 : decode bMo_sumIn 5 = .ok (.imul, 1) := by decide +kernel
theorem dMo_sumIn_6 : decode bMo_sumIn 6 = .ok (.istore 5, 2) := by decide +kernel
theorem dMo_sumIn_8 : decode bMo_sumIn 8 = .ok (.iload 5, 2) := by decide +kernel
theorem dMo_sumIn_10 : decode bMo_sumIn 10 = .ok (.bipush 20, 2) := by decide +kernel
theorem dMo_sumIn_12 : decode bMo_sumIn 12 = .ok (.iload_n 1, 1) := by decide +kernel
theorem dMo_sumIn_13 : decode bMo_sumIn 13 = .ok (.imul, 1) := by decide +kernel
theorem dMo_sumIn_14 : decode bMo_sumIn 14 = .ok (.aload_n 0, 1) := by decide +kernel
theorem dMo_sumIn_15 : decode bMo_sumIn 15 = .ok (.getfield 42, 3) := by decide +kernel
theorem dMo_sumIn_18 : decode bMo_sumIn 18 = .ok (.iload_n 1, 1) := by decide +kernel
theorem dMo_sumIn_19 : decode bMo_sumIn 19 = .ok (.iaload, 1) := by decide +kernel
theorem dMo_sumIn_20 : decode bMo_sumIn 20 = .ok (.iadd, 1) := by decide +kernel
theorem dMo_sumIn_21 : decode bMo_sumIn 21 = .ok (.if_icmp .ge 39, 3) := by decide +kernel
theorem dMo_sumIn_24 : decode bMo_sumIn 24 = .ok (.lload_n 3, 1) := by decide +kernel
theorem dMo_sumIn_25 : decode bMo_sumIn 25 = .ok (.iload_n 2, 1) := by decide +kernel
theorem dMo_sumIn_26 : decode bMo_sumIn 26 = .ok (.iconst (-1), 1) := by decide +kernel
theorem dMo_sumIn_27 : decode bMo_sumIn 27 = .ok (.if_icmp .eq 14, 3) := by decide +kernel
theorem dMo_sumIn_30 : decode bMo_sumIn 30 = .ok (.aload_n 0, 1) := by decide +kernel
theorem dMo_sumIn_31 : decode bMo_sumIn 31 = .ok (.getfield 45, 3) := by decide +kernel
theorem dMo_sumIn_34 : decode bMo_sumIn 34 = .ok (.iload 5, 2) := by decide +kernel
theorem dMo_sumIn_36 : decode bMo_sumIn 36 = .ok (.iaload, 1) := by decide +kernel
theorem dMo_sumIn_37 : decode bMo_sumIn 37 = .ok (.iload_n 2, 1) := by decide +kernel
theorem dMo_sumIn_38 : decode bMo_sumIn 38 = .ok (.if_icmp .ne 13, 3) := by decide +kernel
theorem dMo_sumIn_41 : decode bMo_sumIn 41 = .ok (.aload_n 0, 1) := by decide +kernel
theorem dMo_sumIn_42 : decode bMo_sumIn 42 = .ok (.getfield 48, 3) := by decide +kernel
theorem dMo_sumIn_45 : decode bMo_sumIn 45 = .ok (.iload 5, 2) := by decide +kernel
theorem dMo_sumIn_47 : decode bMo_sumIn 47 = .ok (.laload, 1) := by decide +kernel
theorem dMo_sumIn_48 : decode bMo_sumIn 48 = .ok (.goto 4, 3) := by decide +kernel
theorem dMo_sumIn_51 : decode bMo_sumIn 51 = .ok (.lconst 0, 1) := by decide +kernel
theorem dMo_sumIn_52 : decode bMo_sumIn 52 = .ok (.ladd, 1) := by decide +kernel
theorem dMo_sumIn_53 : decode bMo_sumIn 53 = .ok (.lstore_n 3, 1) := by decide +kernel
theorem dMo_sumIn_54 : decode bMo_sumIn 54 = .ok (.iinc 5 1, 3) := by decide +kernel
theorem dMo_sumIn_57 : decode bMo_sumIn 57 = .ok (.goto (-49), 3) := by decide +kernel
theorem dMo_sumIn_60 : decode bMo_sumIn 60 = .ok (.lload_n 3, 1) := by decide +kernel
theorem dMo_sumIn_61 : decode bMo_sumIn 61 = .ok (.lreturn, 1) := by decide +kernel
theorem dMo_greatestIn_0 : decode bMo_greatestIn 0 = .ok (.iconst (-1), 1) := by decide +kernel
theorem dMo_greatestIn_1 : decode bMo_greatestIn 1 = .ok (.istore_n 2, 1) := by decide +kernel
theorem dMo_greatestIn_2 : decode bMo_greatestIn 2 = .ok (.lconst 0, 1) := by decide +kernel
theorem dMo_greatestIn_3 : decode bMo_greatestIn 3 = .ok (.lstore_n 3, 1) := by decide +kernel
theorem dMo_greatestIn_4 : decode bMo_greatestIn 4 = .ok (.iconst 0, 1) := by decide +kernel
theorem dMo_greatestIn_5 : decode bMo_greatestIn 5 = .ok (.istore 5, 2) := by decide +kernel
theorem dMo_greatestIn_7 : decode bMo_greatestIn 7 = .ok (.iload 5, 2) := by decide +kernel
theorem dMo_greatestIn_9 : decode bMo_greatestIn 9 = .ok (.aload_n 0, 1) := by decide +kernel
theorem dMo_greatestIn_10 : decode bMo_greatestIn 10 = .ok (.getfield 72, 3) := by decide +kernel
theorem dMo_greatestIn_13 : decode bMo_greatestIn 13 = .ok (.if_icmp .ge 63, 3) := by decide +kernel
theorem dMo_greatestIn_16 : decode bMo_greatestIn 16 = .ok (.aload_n 0, 1) := by decide +kernel
theorem dMo_greatestIn_17 : decode bMo_greatestIn 17 = .ok (.iload_n 1, 1) := by decide +kernel
theorem dMo_greatestIn_18 : decode bMo_greatestIn 18 = .ok (.iload 5, 2) := by decide +kernel
theorem dMo_greatestIn_20 : decode bMo_greatestIn 20 = .ok (.invokevirtual 99, 3) := by decide +kernel
theorem dMo_greatestIn_23 : decode bMo_greatestIn 23 = .ok (.lstore 6, 2) := by decide +kernel
theorem dMo_greatestIn_25 : decode bMo_greatestIn 25 = .ok (.lload 6, 2) := by decide +kernel
theorem dMo_greatestIn_27 : decode bMo_greatestIn 27 = .ok (.lconst 0, 1) := by decide +kernel
theorem dMo_greatestIn_28 : decode bMo_greatestIn 28 = .ok (.lcmp, 1) := by decide +kernel
theorem dMo_greatestIn_29 : decode bMo_greatestIn 29 = .ok (.ifCond .ge 9, 3) := by decide +kernel
theorem dMo_greatestIn_32 : decode bMo_greatestIn 32 = .ok (.lload 6, 2) := by decide +kernel
theorem dMo_greatestIn_34 : decode bMo_greatestIn 34 = .ok (.lneg, 1) := by decide +kernel
theorem dMo_greatestIn_35 : decode bMo_greatestIn 35 = .ok (.goto 5, 3) := by decide +kernel
theorem dMo_greatestIn_38 : decode bMo_greatestIn 38 = .ok (.lload 6, 2) := by decide +kernel
theorem dMo_greatestIn_40 : decode bMo_greatestIn 40 = .ok (.lstore 6, 2) := by decide +kernel
theorem dMo_greatestIn_42 : decode bMo_greatestIn 42 = .ok (.lload 6, 2) := by decide +kernel
theorem dMo_greatestIn_44 : decode bMo_greatestIn 44 = .ok (.lload_n 3, 1) := by decide +kernel
theorem dMo_greatestIn_45 : decode bMo_greatestIn 45 = .ok (.lcmp, 1) := by decide +kernel
theorem dMo_greatestIn_46 : decode bMo_greatestIn 46 = .ok (.ifCond .le 8, 3) := by decide +kernel
theorem dMo_greatestIn_49 : decode bMo_greatestIn 49 = .ok (.iload 5, 2) := by decide +kernel
theorem dMo_greatestIn_51 : decode bMo_greatestIn 51 = .ok (.goto 4, 3) := by decide +kernel
theorem dMo_greatestIn_54 : decode bMo_greatestIn 54 = .ok (.iload_n 2, 1) := by decide +kernel
theorem dMo_greatestIn_55 : decode bMo_greatestIn 55 = .ok (.istore_n 2, 1) := by decide +kernel
theorem dMo_greatestIn_56 : decode bMo_greatestIn 56 = .ok (.lload 6, 2) := by decide +kernel
theorem dMo_greatestIn_58 : decode bMo_greatestIn 58 = .ok (.lload_n 3, 1) := by decide +kernel
theorem dMo_greatestIn_59 : decode bMo_greatestIn 59 = .ok (.lcmp, 1) := by decide +kernel
theorem dMo_greatestIn_60 : decode bMo_greatestIn 60 = .ok (.ifCond .le 8, 3) := by decide +kernel
theorem dMo_greatestIn_63 : decode bMo_greatestIn 63 = .ok (.lload 6, 2) := by decide +kernel
theorem dMo_greatestIn_65 : decode bMo_greatestIn 65 = .ok (.goto 4, 3) := by decide +kernel
theorem dMo_greatestIn_68 : decode bMo_greatestIn 68 = .ok (.lload_n 3, 1) := by decide +kernel
theorem dMo_greatestIn_69 : decode bMo_greatestIn 69 = .ok (.lstore_n 3, 1) := by decide +kernel
theorem dMo_greatestIn_70 : decode bMo_greatestIn 70 = .ok (.iinc 5 1, 3) := by decide +kernel
theorem dMo_greatestIn_73 : decode bMo_greatestIn 73 = .ok (.goto (-66), 3) := by decide +kernel
theorem dMo_greatestIn_76 : decode bMo_greatestIn 76 = .ok (.iload_n 2, 1) := by decide +kernel
theorem dMo_greatestIn_77 : decode bMo_greatestIn 77 = .ok (.ireturn, 1) := by decide +kernel
theorem dMo_enter_0 : decode bMo_enter 0 = .ok (.iconst 0, 1) := by decide +kernel
theorem dMo_enter_1 : decode bMo_enter 1 = .ok (.istore_n 2, 1) := by decide +kernel
theorem dMo_enter_2 : decode bMo_enter 2 = .ok (.iload_n 2, 1) := by decide +kernel
theorem dMo_enter_3 : decode bMo_enter 3 = .ok (.aload_n 0, 1) := by decide +kernel
theorem dMo_enter_4 : decode bMo_enter 4 = .ok (.getfield 42, 3) := by decide +kernel
theorem dMo_enter_7 : decode bMo_enter 7 = .ok (.iload_n 1, 1) := by decide +kernel
theorem dMo_enter_8 : decode bMo_enter 8 = .ok (.iaload, 1) := by decide +kernel
theorem dMo_enter_9 : decode bMo_enter 9 = .ok (.if_icmp .ge 26, 3) := by decide +kernel
theorem dMo_enter_12 : decode bMo_enter 12 = .ok (.aload_n 0, 1) := by decide +kernel
theorem dMo_enter_13 : decode bMo_enter 13 = .ok (.getfield 52, 3) := by decide +kernel
theorem dMo_enter_16 : decode bMo_enter 16 = .ok (.aload_n 0, 1) := by decide +kernel
theorem dMo_enter_17 : decode bMo_enter 17 = .ok (.getfield 103, 3) := by decide +kernel
theorem dMo_enter_20 : decode bMo_enter 20 = .ok (.iload_n 2, 1) := by decide +kernel
theorem dMo_enter_21 : decode bMo_enter 21 = .ok (.iadd, 1) := by decide +kernel
theorem dMo_enter_22 : decode bMo_enter 22 = .ok (.bipush 20, 2) := by decide +kernel
theorem dMo_enter_24 : decode bMo_enter 24 = .ok (.iload_n 1, 1) := by decide +kernel
theorem dMo_enter_25 : decode bMo_enter 25 = .ok (.imul, 1) := by decide +kernel
theorem dMo_enter_26 : decode bMo_enter 26 = .ok (.iload_n 2, 1) := by decide +kernel
theorem dMo_enter_27 : decode bMo_enter 27 = .ok (.iadd, 1) := by decide +kernel
theorem dMo_enter_28 : decode bMo_enter 28 = .ok (.iastore, 1) := by decide +kernel
theorem dMo_enter_29 : decode bMo_enter 29 = .ok (.iinc 2 1, 3) := by decide +kernel
theorem dMo_enter_32 : decode bMo_enter 32 = .ok (.goto (-30), 3) := by decide +kernel
theorem dMo_enter_35 : decode bMo_enter 35 = .ok (.aload_n 0, 1) := by decide +kernel
theorem dMo_enter_36 : decode bMo_enter 36 = .ok (.dup, 1) := by decide +kernel
theorem dMo_enter_37 : decode bMo_enter 37 = .ok (.getfield 103, 3) := by decide +kernel
theorem dMo_enter_40 : decode bMo_enter 40 = .ok (.aload_n 0, 1) := by decide +kernel
theorem dMo_enter_41 : decode bMo_enter 41 = .ok (.getfield 42, 3) := by decide +kernel
theorem dMo_enter_44 : decode bMo_enter 44 = .ok (.iload_n 1, 1) := by decide +kernel
theorem dMo_enter_45 : decode bMo_enter 45 = .ok (.iaload, 1) := by decide +kernel
theorem dMo_enter_46 : decode bMo_enter 46 = .ok (.iadd, 1) := by decide +kernel
theorem dMo_enter_47 : decode bMo_enter 47 = .ok (.putfield 103, 3) := by decide +kernel
theorem dMo_enter_50 : decode bMo_enter 50 = .ok (.aload_n 0, 1) := by decide +kernel
theorem dMo_enter_51 : decode bMo_enter 51 = .ok (.aload_n 0, 1) := by decide +kernel
theorem dMo_enter_52 : decode bMo_enter 52 = .ok (.getfield 29, 3) := by decide +kernel
theorem dMo_enter_55 : decode bMo_enter 55 = .ok (.iload_n 1, 1) := by decide +kernel
theorem dMo_enter_56 : decode bMo_enter 56 = .ok (.iaload, 1) := by decide +kernel
theorem dMo_enter_57 : decode bMo_enter 57 = .ok (.putfield 13, 3) := by decide +kernel
theorem dMo_enter_60 : decode bMo_enter 60 = .ok (.aload_n 0, 1) := by decide +kernel
theorem dMo_enter_61 : decode bMo_enter 61 = .ok (.getfield 23, 3) := by decide +kernel
theorem dMo_enter_64 : decode bMo_enter 64 = .ok (.iload_n 1, 1) := by decide +kernel
theorem dMo_enter_65 : decode bMo_enter 65 = .ok (.iconst 1, 1) := by decide +kernel
theorem dMo_enter_66 : decode bMo_enter 66 = .ok (.iastore, 1) := by decide +kernel
theorem dMo_enter_67 : decode bMo_enter 67 = .ok (.return_, 1) := by decide +kernel
theorem dMo_reverse_0 : decode bMo_reverse 0 = .ok (.iload_n 1, 1) := by decide +kernel
theorem dMo_reverse_1 : decode bMo_reverse 1 = .ok (.ifCond .lt 32, 3) := by decide +kernel
theorem dMo_reverse_4 : decode bMo_reverse 4 = .ok (.iload_n 1, 1) := by decide +kernel
theorem dMo_reverse_5 : decode bMo_reverse 5 = .ok (.aload_n 0, 1) := by decide +kernel
theorem dMo_reverse_6 : decode bMo_reverse 6 = .ok (.getfield 75, 3) := by decide +kernel
theorem dMo_reverse_9 : decode bMo_reverse 9 = .ok (.if_icmp .ge 24, 3) := by decide +kernel
theorem dMo_reverse_12 : decode bMo_reverse 12 = .ok (.aload_n 0, 1) := by decide +kernel
theorem dMo_reverse_13 : decode bMo_reverse 13 = .ok (.getfield 23, 3) := by decide +kernel
theorem dMo_reverse_16 : decode bMo_reverse 16 = .ok (.iload_n 1, 1) := by decide +kernel
theorem dMo_reverse_17 : decode bMo_reverse 17 = .ok (.iaload, 1) := by decide +kernel
theorem dMo_reverse_18 : decode bMo_reverse 18 = .ok (.iconst 1, 1) := by decide +kernel
theorem dMo_reverse_19 : decode bMo_reverse 19 = .ok (.if_icmp .ne 14, 3) := by decide +kernel
theorem dMo_reverse_22 : decode bMo_reverse 22 = .ok (.iload_n 2, 1) := by decide +kernel
theorem dMo_reverse_23 : decode bMo_reverse 23 = .ok (.invokestatic 82, 3) := by decide +kernel
theorem dMo_reverse_26 : decode bMo_reverse 26 = .ok (.ifCond .eq 7, 3) := by decide +kernel
theorem dMo_reverse_29 : decode bMo_reverse 29 = .ok (.iconst 1, 1) := by decide +kernel
theorem dMo_reverse_30 : decode bMo_reverse 30 = .ok (.goto 4, 3) := by decide +kernel
theorem dMo_reverse_33 : decode bMo_reverse 33 = .ok (.iconst 0, 1) := by decide +kernel
theorem dMo_reverse_34 : decode bMo_reverse 34 = .ok (.istore_n 3, 1) := by decide +kernel
theorem dMo_reverse_35 : decode bMo_reverse 35 = .ok (.aload_n 0, 1) := by decide +kernel
theorem dMo_reverse_36 : decode bMo_reverse 36 = .ok (.iload_n 3, 1) := by decide +kernel
theorem dMo_reverse_37 : decode bMo_reverse 37 = .ok (.ifCond .ne 7, 3) := by decide +kernel
theorem dMo_reverse_40 : decode bMo_reverse 40 = .ok (.iconst 1, 1) := by decide +kernel
theorem dMo_reverse_41 : decode bMo_reverse 41 = .ok (.goto 35, 3) := by decide +kernel
theorem dMo_reverse_44 : decode bMo_reverse 44 = .ok (.aload_n 0, 1) := by decide +kernel
theorem dMo_reverse_45 : decode bMo_reverse 45 = .ok (.getfield 35, 3) := by decide +kernel
theorem dMo_reverse_48 : decode bMo_reverse 48 = .ok (.iload_n 1, 1) := by decide +kernel
theorem dMo_reverse_49 : decode bMo_reverse 49 = .ok (.iaload, 1) := by decide +kernel
theorem dMo_reverse_50 : decode bMo_reverse 50 = .ok (.ifCond .ge 21, 3) := by decide +kernel
theorem dMo_reverse_53 : decode bMo_reverse 53 = .ok (.aload_n 0, 1) := by decide +kernel
theorem dMo_reverse_54 : decode bMo_reverse 54 = .ok (.getfield 32, 3) := by decide +kernel
theorem dMo_reverse_57 : decode bMo_reverse 57 = .ok (.iload_n 1, 1) := by decide +kernel
theorem dMo_reverse_58 : decode bMo_reverse 58 = .ok (.iaload, 1) := by decide +kernel
theorem dMo_reverse_59 : decode bMo_reverse 59 = .ok (.ifCond .ge 12, 3) := by decide +kernel
theorem dMo_reverse_62 : decode bMo_reverse 62 = .ok (.aload_n 0, 1) := by decide +kernel
theorem dMo_reverse_63 : decode bMo_reverse 63 = .ok (.getfield 75, 3) := by decide +kernel
theorem dMo_reverse_66 : decode bMo_reverse 66 = .ok (.bipush 100, 2) := by decide +kernel
theorem dMo_reverse_68 : decode bMo_reverse 68 = .ok (.if_icmp .ne 7, 3) := by decide +kernel
theorem dMo_reverse_71 : decode bMo_reverse 71 = .ok (.iconst 2, 1) := by decide +kernel
theorem dMo_reverse_72 : decode bMo_reverse 72 = .ok (.goto 4, 3) := by decide +kernel
theorem dMo_reverse_75 : decode bMo_reverse 75 = .ok (.iconst 0, 1) := by decide +kernel
theorem dMo_reverse_76 : decode bMo_reverse 76 = .ok (.putfield 61, 3) := by decide +kernel
theorem dMo_reverse_79 : decode bMo_reverse 79 = .ok (.aload_n 0, 1) := by decide +kernel
theorem dMo_reverse_80 : decode bMo_reverse 80 = .ok (.getfield 61, 3) := by decide +kernel
theorem dMo_reverse_83 : decode bMo_reverse 83 = .ok (.ifCond .le 5, 3) := by decide +kernel
theorem dMo_reverse_86 : decode bMo_reverse 86 = .ok (.iconst 0, 1) := by decide +kernel
theorem dMo_reverse_87 : decode bMo_reverse 87 = .ok (.ireturn, 1) := by decide +kernel
theorem dMo_reverse_88 : decode bMo_reverse 88 = .ok (.aload_n 0, 1) := by decide +kernel
theorem dMo_reverse_89 : decode bMo_reverse 89 = .ok (.getfield 75, 3) := by decide +kernel
theorem dMo_reverse_92 : decode bMo_reverse 92 = .ok (.istore 4, 2) := by decide +kernel
theorem dMo_reverse_94 : decode bMo_reverse 94 = .ok (.aload_n 0, 1) := by decide +kernel
theorem dMo_reverse_95 : decode bMo_reverse 95 = .ok (.iload 4, 2) := by decide +kernel
theorem dMo_reverse_97 : decode bMo_reverse 97 = .ok (.aload_n 0, 1) := by decide +kernel
theorem dMo_reverse_98 : decode bMo_reverse 98 = .ok (.getfield 26, 3) := by decide +kernel
theorem dMo_reverse_101 : decode bMo_reverse 101 = .ok (.iload_n 1, 1) := by decide +kernel
theorem dMo_reverse_102 : decode bMo_reverse 102 = .ok (.iaload, 1) := by decide +kernel
theorem dMo_reverse_103 : decode bMo_reverse 103 = .ok (.iload_n 2, 1) := by decide +kernel
theorem dMo_reverse_104 : decode bMo_reverse 104 = .ok (.invokevirtual 85, 3) := by decide +kernel
theorem dMo_reverse_107 : decode bMo_reverse 107 = .ok (.aload_n 0, 1) := by decide +kernel
theorem dMo_reverse_108 : decode bMo_reverse 108 = .ok (.getfield 42, 3) := by decide +kernel
theorem dMo_reverse_111 : decode bMo_reverse 111 = .ok (.iload 4, 2) := by decide +kernel
theorem dMo_reverse_113 : decode bMo_reverse 113 = .ok (.aload_n 0, 1) := by decide +kernel
theorem dMo_reverse_114 : decode bMo_reverse 114 = .ok (.getfield 42, 3) := by decide +kernel
theorem dMo_reverse_117 : decode bMo_reverse 117 = .ok (.iload_n 1, 1) := by decide +kernel
theorem dMo_reverse_118 : decode bMo_reverse 118 = .ok (.iaload, 1) := by decide +kernel
theorem dMo_reverse_119 : decode bMo_reverse 119 = .ok (.iastore, 1) := by decide +kernel
theorem dMo_reverse_120 : decode bMo_reverse 120 = .ok (.iconst 0, 1) := by decide +kernel
theorem dMo_reverse_121 : decode bMo_reverse 121 = .ok (.istore 5, 2) := by decide +kernel
theorem dMo_reverse_123 : decode bMo_reverse 123 = .ok (.iload 5, 2) := by decide +kernel
theorem dMo_reverse_125 : decode bMo_reverse 125 = .ok (.aload_n 0, 1) := by decide +kernel
theorem dMo_reverse_126 : decode bMo_reverse 126 = .ok (.getfield 42, 3) := by decide +kernel
theorem dMo_reverse_129 : decode bMo_reverse 129 = .ok (.iload_n 1, 1) := by decide +kernel
theorem dMo_reverse_130 : decode bMo_reverse 130 = .ok (.iaload, 1) := by decide +kernel
theorem dMo_reverse_131 : decode bMo_reverse 131 = .ok (.if_icmp .ge 60, 3) := by decide +kernel
theorem dMo_reverse_134 : decode bMo_reverse 134 = .ok (.aload_n 0, 1) := by decide +kernel
theorem dMo_reverse_135 : decode bMo_reverse 135 = .ok (.getfield 45, 3) := by decide +kernel
theorem dMo_reverse_138 : decode bMo_reverse 138 = .ok (.bipush 20, 2) := by decide +kernel
theorem dMo_reverse_140 : decode bMo_reverse 140 = .ok (.iload 4, 2) := by decide +kernel
theorem dMo_reverse_142 : decode bMo_reverse 142 = .ok (.imul, 1) := by decide +kernel
theorem dMo_reverse_143 : decode bMo_reverse 143 = .ok (.iload 5, 2) := by decide +kernel
theorem dMo_reverse_145 : decode bMo_reverse 145 = .ok (.iadd, 1) := by decide +kernel
theorem dMo_reverse_146 : decode bMo_reverse 146 = .ok (.aload_n 0, 1) := by decide +kernel
theorem dMo_reverse_147 : decode bMo_reverse 147 = .ok (.getfield 45, 3) := by decide +kernel
theorem dMo_reverse_150 : decode bMo_reverse 150 = .ok (.bipush 20, 2) := by decide +kernel
theorem dMo_reverse_152 : decode bMo_reverse 152 = .ok (.iload_n 1, 1) := by decide +kernel
theorem dMo_reverse_153 : decode bMo_reverse 153 = .ok (.imul, 1) := by decide +kernel
theorem dMo_reverse_154 : decode bMo_reverse 154 = .ok (.iload 5, 2) := by decide +kernel
theorem dMo_reverse_156 : decode bMo_reverse 156 = .ok (.iadd, 1) := by decide +kernel
theorem dMo_reverse_157 : decode bMo_reverse 157 = .ok (.iaload, 1) := by decide +kernel
theorem dMo_reverse_158 : decode bMo_reverse 158 = .ok (.iastore, 1) := by decide +kernel
theorem dMo_reverse_159 : decode bMo_reverse 159 = .ok (.aload_n 0, 1) := by decide +kernel
theorem dMo_reverse_160 : decode bMo_reverse 160 = .ok (.getfield 48, 3) := by decide +kernel
theorem dMo_reverse_163 : decode bMo_reverse 163 = .ok (.bipush 20, 2) := by decide +kernel
theorem dMo_reverse_165 : decode bMo_reverse 165 = .ok (.iload 4, 2) := by decide +kernel
theorem dMo_reverse_167 : decode bMo_reverse 167 = .ok (.imul, 1) := by decide +kernel
theorem dMo_reverse_168 : decode bMo_reverse 168 = .ok (.iload 5, 2) := by decide +kernel
theorem dMo_reverse_170 : decode bMo_reverse 170 = .ok (.iadd, 1) := by decide +kernel
theorem dMo_reverse_171 : decode bMo_reverse 171 = .ok (.aload_n 0, 1) := by decide +kernel
theorem dMo_reverse_172 : decode bMo_reverse 172 = .ok (.getfield 48, 3) := by decide +kernel
theorem dMo_reverse_175 : decode bMo_reverse 175 = .ok (.bipush 20, 2) := by decide +kernel
theorem dMo_reverse_177 : decode bMo_reverse 177 = .ok (.iload_n 1, 1) := by decide +kernel
theorem dMo_reverse_178 : decode bMo_reverse 178 = .ok (.imul, 1) := by decide +kernel
theorem dMo_reverse_179 : decode bMo_reverse 179 = .ok (.iload 5, 2) := by decide +kernel
theorem dMo_reverse_181 : decode bMo_reverse 181 = .ok (.iadd, 1) := by decide +kernel
theorem dMo_reverse_182 : decode bMo_reverse 182 = .ok (.laload, 1) := by decide +kernel
theorem dMo_reverse_183 : decode bMo_reverse 183 = .ok (.lneg, 1) := by decide +kernel
theorem dMo_reverse_184 : decode bMo_reverse 184 = .ok (.lastore, 1) := by decide +kernel
theorem dMo_reverse_185 : decode bMo_reverse 185 = .ok (.iinc 5 1, 3) := by decide +kernel
theorem dMo_reverse_188 : decode bMo_reverse 188 = .ok (.goto (-65), 3) := by decide +kernel
theorem dMo_reverse_191 : decode bMo_reverse 191 = .ok (.aload_n 0, 1) := by decide +kernel
theorem dMo_reverse_192 : decode bMo_reverse 192 = .ok (.aload_n 0, 1) := by decide +kernel
theorem dMo_reverse_193 : decode bMo_reverse 193 = .ok (.iload 4, 2) := by decide +kernel
theorem dMo_reverse_195 : decode bMo_reverse 195 = .ok (.invokevirtual 106, 3) := by decide +kernel
theorem dMo_reverse_198 : decode bMo_reverse 198 = .ok (.ifCond .le 7, 3) := by decide +kernel
theorem dMo_reverse_201 : decode bMo_reverse 201 = .ok (.iconst 2, 1) := by decide +kernel
theorem dMo_reverse_202 : decode bMo_reverse 202 = .ok (.goto 4, 3) := by decide +kernel
theorem dMo_reverse_205 : decode bMo_reverse 205 = .ok (.iconst 0, 1) := by decide +kernel
theorem dMo_reverse_206 : decode bMo_reverse 206 = .ok (.putfield 61, 3) := by decide +kernel
theorem dMo_reverse_209 : decode bMo_reverse 209 = .ok (.aload_n 0, 1) := by decide +kernel
theorem dMo_reverse_210 : decode bMo_reverse 210 = .ok (.getfield 61, 3) := by decide +kernel
theorem dMo_reverse_213 : decode bMo_reverse 213 = .ok (.ifCond .le 5, 3) := by decide +kernel
theorem dMo_reverse_216 : decode bMo_reverse 216 = .ok (.iconst 0, 1) := by decide +kernel
theorem dMo_reverse_217 : decode bMo_reverse 217 = .ok (.ireturn, 1) := by decide +kernel
theorem dMo_reverse_218 : decode bMo_reverse 218 = .ok (.aload_n 0, 1) := by decide +kernel
theorem dMo_reverse_219 : decode bMo_reverse 219 = .ok (.iload 4, 2) := by decide +kernel
theorem dMo_reverse_221 : decode bMo_reverse 221 = .ok (.invokevirtual 119, 3) := by decide +kernel
theorem dMo_reverse_224 : decode bMo_reverse 224 = .ok (.aload_n 0, 1) := by decide +kernel
theorem dMo_reverse_225 : decode bMo_reverse 225 = .ok (.dup, 1) := by decide +kernel
theorem dMo_reverse_226 : decode bMo_reverse 226 = .ok (.getfield 75, 3) := by decide +kernel
theorem dMo_reverse_229 : decode bMo_reverse 229 = .ok (.iconst 1, 1) := by decide +kernel
theorem dMo_reverse_230 : decode bMo_reverse 230 = .ok (.iadd, 1) := by decide +kernel
theorem dMo_reverse_231 : decode bMo_reverse 231 = .ok (.putfield 75, 3) := by decide +kernel
theorem dMo_reverse_234 : decode bMo_reverse 234 = .ok (.aload_n 0, 1) := by decide +kernel
theorem dMo_reverse_235 : decode bMo_reverse 235 = .ok (.getfield 32, 3) := by decide +kernel
theorem dMo_reverse_238 : decode bMo_reverse 238 = .ok (.iload 4, 2) := by decide +kernel
theorem dMo_reverse_240 : decode bMo_reverse 240 = .ok (.iload_n 1, 1) := by decide +kernel
theorem dMo_reverse_241 : decode bMo_reverse 241 = .ok (.iastore, 1) := by decide +kernel
theorem dMo_reverse_242 : decode bMo_reverse 242 = .ok (.aload_n 0, 1) := by decide +kernel
theorem dMo_reverse_243 : decode bMo_reverse 243 = .ok (.getfield 35, 3) := by decide +kernel
theorem dMo_reverse_246 : decode bMo_reverse 246 = .ok (.iload_n 1, 1) := by decide +kernel
theorem dMo_reverse_247 : decode bMo_reverse 247 = .ok (.iload 4, 2) := by decide +kernel
theorem dMo_reverse_249 : decode bMo_reverse 249 = .ok (.iastore, 1) := by decide +kernel
theorem dMo_reverse_250 : decode bMo_reverse 250 = .ok (.iload 4, 2) := by decide +kernel
theorem dMo_reverse_252 : decode bMo_reverse 252 = .ok (.ireturn, 1) := by decide +kernel
theorem dMo_close_0 : decode bMo_close 0 = .ok (.aload_n 0, 1) := by decide +kernel
theorem dMo_close_1 : decode bMo_close 1 = .ok (.iconst 0, 1) := by decide +kernel
theorem dMo_close_2 : decode bMo_close 2 = .ok (.putfield 61, 3) := by decide +kernel
theorem dMo_close_5 : decode bMo_close 5 = .ok (.iload_n 1, 1) := by decide +kernel
theorem dMo_close_6 : decode bMo_close 6 = .ok (.invokestatic 82, 3) := by decide +kernel
theorem dMo_close_9 : decode bMo_close 9 = .ok (.ifCond .eq 11, 3) := by decide +kernel
theorem dMo_close_12 : decode bMo_close 12 = .ok (.iload_n 1, 1) := by decide +kernel
theorem dMo_close_13 : decode bMo_close 13 = .ok (.aload_n 0, 1) := by decide +kernel
theorem dMo_close_14 : decode bMo_close 14 = .ok (.getfield 9, 3) := by decide +kernel
theorem dMo_close_17 : decode bMo_close 17 = .ok (.if_icmp .gt 5, 3) := by decide +kernel
theorem dMo_close_20 : decode bMo_close 20 = .ok (.iconst 0, 1) := by decide +kernel
theorem dMo_close_21 : decode bMo_close 21 = .ok (.ireturn, 1) := by decide +kernel
theorem dMo_close_22 : decode bMo_close 22 = .ok (.aload_n 0, 1) := by decide +kernel
theorem dMo_close_23 : decode bMo_close 23 = .ok (.iload_n 1, 1) := by decide +kernel
theorem dMo_close_24 : decode bMo_close 24 = .ok (.putfield 9, 3) := by decide +kernel
theorem dMo_close_27 : decode bMo_close 27 = .ok (.iconst 1, 1) := by decide +kernel
theorem dMo_close_28 : decode bMo_close 28 = .ok (.ireturn, 1) := by decide +kernel
theorem dMo_balance_0 : decode bMo_balance 0 = .ok (.aload_n 0, 1) := by decide +kernel
theorem dMo_balance_1 : decode bMo_balance 1 = .ok (.aload_n 0, 1) := by decide +kernel
theorem dMo_balance_2 : decode bMo_balance 2 = .ok (.iload_n 1, 1) := by decide +kernel
theorem dMo_balance_3 : decode bMo_balance 3 = .ok (.invokevirtual 92, 3) := by decide +kernel
theorem dMo_balance_6 : decode bMo_balance 6 = .ok (.ifCond .eq 21, 3) := by decide +kernel
theorem dMo_balance_9 : decode bMo_balance 9 = .ok (.iload_n 2, 1) := by decide +kernel
theorem dMo_balance_10 : decode bMo_balance 10 = .ok (.invokestatic 82, 3) := by decide +kernel
theorem dMo_balance_13 : decode bMo_balance 13 = .ok (.ifCond .eq 14, 3) := by decide +kernel
theorem dMo_balance_16 : decode bMo_balance 16 = .ok (.iload_n 3, 1) := by decide +kernel
theorem dMo_balance_17 : decode bMo_balance 17 = .ok (.invokestatic 82, 3) := by decide +kernel
theorem dMo_balance_20 : decode bMo_balance 20 = .ok (.ifCond .eq 7, 3) := by decide +kernel
theorem dMo_balance_23 : decode bMo_balance 23 = .ok (.iconst 0, 1) := by decide +kernel
theorem dMo_balance_24 : decode bMo_balance 24 = .ok (.goto 4, 3) := by decide +kernel
theorem dMo_balance_27 : decode bMo_balance 27 = .ok (.iconst 1, 1) := by decide +kernel
theorem dMo_balance_28 : decode bMo_balance 28 = .ok (.putfield 61, 3) := by decide +kernel
theorem dMo_balance_31 : decode bMo_balance 31 = .ok (.aload_n 0, 1) := by decide +kernel
theorem dMo_balance_32 : decode bMo_balance 32 = .ok (.getfield 61, 3) := by decide +kernel
theorem dMo_balance_35 : decode bMo_balance 35 = .ok (.ifCond .le 7, 3) := by decide +kernel
theorem dMo_balance_38 : decode bMo_balance 38 = .ok (.lconst 0, 1) := by decide +kernel
theorem dMo_balance_39 : decode bMo_balance 39 = .ok (.goto 11, 3) := by decide +kernel
theorem dMo_balance_42 : decode bMo_balance 42 = .ok (.aload_n 0, 1) := by decide +kernel
theorem dMo_balance_43 : decode bMo_balance 43 = .ok (.iload_n 1, 1) := by decide +kernel
theorem dMo_balance_44 : decode bMo_balance 44 = .ok (.iconst 0, 1) := by decide +kernel
theorem dMo_balance_45 : decode bMo_balance 45 = .ok (.iload_n 2, 1) := by decide +kernel
theorem dMo_balance_46 : decode bMo_balance 46 = .ok (.iload_n 3, 1) := by decide +kernel
theorem dMo_balance_47 : decode bMo_balance 47 = .ok (.invokevirtual 123, 3) := by decide +kernel
theorem dMo_balance_50 : decode bMo_balance 50 = .ok (.lreturn, 1) := by decide +kernel
theorem dMo_sum_0 : decode bMo_sum 0 = .ok (.lconst 0, 1) := by decide +kernel
theorem dMo_sum_1 : decode bMo_sum 1 = .ok (.lstore 5, 2) := by decide +kernel
theorem dMo_sum_3 : decode bMo_sum 3 = .ok (.iconst 0, 1) := by decide +kernel
theorem dMo_sum_4 : decode bMo_sum 4 = .ok (.istore 7, 2) := by decide +kernel
theorem dMo_sum_6 : decode bMo_sum 6 = .ok (.iload 7, 2) := by decide +kernel
theorem dMo_sum_8 : decode bMo_sum 8 = .ok (.aload_n 0, 1) := by decide +kernel
theorem dMo_sum_9 : decode bMo_sum 9 = .ok (.getfield 103, 3) := by decide +kernel
theorem dMo_sum_12 : decode bMo_sum 12 = .ok (.if_icmp .ge 100, 3) := by decide +kernel
theorem dMo_sum_15 : decode bMo_sum 15 = .ok (.aload_n 0, 1) := by decide +kernel
theorem dMo_sum_16 : decode bMo_sum 16 = .ok (.getfield 52, 3) := by decide +kernel
theorem dMo_sum_19 : decode bMo_sum 19 = .ok (.iload 7, 2) := by decide +kernel
theorem dMo_sum_21 : decode bMo_sum 21 = .ok (.iaload, 1) := by decide +kernel
theorem dMo_sum_22 : decode bMo_sum 22 = .ok (.bipush 20, 2) := by decide +kernel
theorem dMo_sum_24 : decode bMo_sum 24 = .ok (.idiv, 1) := by decide +kernel
theorem dMo_sum_25 : decode bMo_sum 25 = .ok (.istore 8, 2) := by decide +kernel
theorem dMo_sum_27 : decode bMo_sum 27 = .ok (.aload_n 0, 1) := by decide +kernel
theorem dMo_sum_28 : decode bMo_sum 28 = .ok (.getfield 45, 3) := by decide +kernel
theorem dMo_sum_31 : decode bMo_sum 31 = .ok (.aload_n 0, 1) := by decide +kernel
theorem dMo_sum_32 : decode bMo_sum 32 = .ok (.getfield 52, 3) := by decide +kernel
theorem dMo_sum_35 : decode bMo_sum 35 = .ok (.iload 7, 2) := by decide +kernel
theorem dMo_sum_37 : decode bMo_sum 37 = .ok (.iaload, 1) := by decide +kernel
theorem dMo_sum_38 : decode bMo_sum 38 = .ok (.iaload, 1) := by decide +kernel
theorem dMo_sum_39 : decode bMo_sum 39 = .ok (.iload_n 1, 1) := by decide +kernel
theorem dMo_sum_40 : decode bMo_sum 40 = .ok (.if_icmp .ne 37, 3) := by decide +kernel
theorem dMo_sum_43 : decode bMo_sum 43 = .ok (.aload_n 0, 1) := by decide +kernel
theorem dMo_sum_44 : decode bMo_sum 44 = .ok (.getfield 26, 3) := by decide +kernel
theorem dMo_sum_47 : decode bMo_sum 47 = .ok (.iload 8, 2) := by decide +kernel
theorem dMo_sum_49 : decode bMo_sum 49 = .ok (.iaload, 1) := by decide +kernel
theorem dMo_sum_50 : decode bMo_sum 50 = .ok (.i2l, 1) := by decide +kernel
theorem dMo_sum_51 : decode bMo_sum 51 = .ok (.iload_n 2, 1) := by decide +kernel
theorem dMo_sum_52 : decode bMo_sum 52 = .ok (.i2l, 1) := by decide +kernel
theorem dMo_sum_53 : decode bMo_sum 53 = .ok (.iload_n 3, 1) := by decide +kernel
theorem dMo_sum_54 : decode bMo_sum 54 = .ok (.i2l, 1) := by decide +kernel
theorem dMo_sum_55 : decode bMo_sum 55 = .ok (.invokestatic 66, 3) := by decide +kernel
theorem dMo_sum_58 : decode bMo_sum 58 = .ok (.ifCond .eq 19, 3) := by decide +kernel
theorem dMo_sum_61 : decode bMo_sum 61 = .ok (.aload_n 0, 1) := by decide +kernel
theorem dMo_sum_62 : decode bMo_sum 62 = .ok (.getfield 29, 3) := by decide +kernel
theorem dMo_sum_65 : decode bMo_sum 65 = .ok (.iload 8, 2) := by decide +kernel
theorem dMo_sum_67 : decode bMo_sum 67 = .ok (.iaload, 1) := by decide +kernel
theorem dMo_sum_68 : decode bMo_sum 68 = .ok (.iload 4, 2) := by decide +kernel
theorem dMo_sum_70 : decode bMo_sum 70 = .ok (.if_icmp .gt 7, 3) := by decide +kernel
theorem dMo_sum_73 : decode bMo_sum 73 = .ok (.iconst 1, 1) := by decide +kernel
theorem dMo_sum_74 : decode bMo_sum 74 = .ok (.goto 4, 3) := by decide +kernel
theorem dMo_sum_77 : decode bMo_sum 77 = .ok (.iconst 0, 1) := by decide +kernel
theorem dMo_sum_78 : decode bMo_sum 78 = .ok (.istore 9, 2) := by decide +kernel
theorem dMo_sum_80 : decode bMo_sum 80 = .ok (.lload 5, 2) := by decide +kernel
theorem dMo_sum_82 : decode bMo_sum 82 = .ok (.iload 9, 2) := by decide +kernel
theorem dMo_sum_84 : decode bMo_sum 84 = .ok (.ifCond .eq 18, 3) := by decide +kernel
theorem dMo_sum_87 : decode bMo_sum 87 = .ok (.aload_n 0, 1) := by decide +kernel
theorem dMo_sum_88 : decode bMo_sum 88 = .ok (.getfield 48, 3) := by decide +kernel
theorem dMo_sum_91 : decode bMo_sum 91 = .ok (.aload_n 0, 1) := by decide +kernel
theorem dMo_sum_92 : decode bMo_sum 92 = .ok (.getfield 52, 3) := by decide +kernel
theorem dMo_sum_95 : decode bMo_sum 95 = .ok (.iload 7, 2) := by decide +kernel
theorem dMo_sum_97 : decode bMo_sum 97 = .ok (.iaload, 1) := by decide +kernel
theorem dMo_sum_98 : decode bMo_sum 98 = .ok (.laload, 1) := by decide +kernel
theorem dMo_sum_99 : decode bMo_sum 99 = .ok (.goto 4, 3) := by decide +kernel
theorem dMo_sum_102 : decode bMo_sum 102 = .ok (.lconst 0, 1) := by decide +kernel
theorem dMo_sum_103 : decode bMo_sum 103 = .ok (.ladd, 1) := by decide +kernel
theorem dMo_sum_104 : decode bMo_sum 104 = .ok (.lstore 5, 2) := by decide +kernel
theorem dMo_sum_106 : decode bMo_sum 106 = .ok (.iinc 7 1, 3) := by decide +kernel
theorem dMo_sum_109 : decode bMo_sum 109 = .ok (.goto (-103), 3) := by decide +kernel
theorem dMo_sum_112 : decode bMo_sum 112 = .ok (.lload 5, 2) := by decide +kernel
theorem dMo_sum_114 : decode bMo_sum 114 = .ok (.lreturn, 1) := by decide +kernel
theorem dMo_statement_0 : decode bMo_statement 0 = .ok (.aload_n 0, 1) := by decide +kernel
theorem dMo_statement_1 : decode bMo_statement 1 = .ok (.aload_n 0, 1) := by decide +kernel
theorem dMo_statement_2 : decode bMo_statement 2 = .ok (.iload_n 1, 1) := by decide +kernel
theorem dMo_statement_3 : decode bMo_statement 3 = .ok (.invokevirtual 92, 3) := by decide +kernel
theorem dMo_statement_6 : decode bMo_statement 6 = .ok (.ifCond .eq 26, 3) := by decide +kernel
theorem dMo_statement_9 : decode bMo_statement 9 = .ok (.iload_n 2, 1) := by decide +kernel
theorem dMo_statement_10 : decode bMo_statement 10 = .ok (.i2l, 1) := by decide +kernel
theorem dMo_statement_11 : decode bMo_statement 11 = .ok (.lconst 0, 1) := by decide +kernel
theorem dMo_statement_12 : decode bMo_statement 12 = .ok (.ldc2_w 127, 3) := by decide +kernel
theorem dMo_statement_15 : decode bMo_statement 15 = .ok (.invokestatic 66, 3) := by decide +kernel
theorem dMo_statement_18 : decode bMo_statement 18 = .ok (.ifCond .eq 14, 3) := by decide +kernel
theorem dMo_statement_21 : decode bMo_statement 21 = .ok (.iload_n 3, 1) := by decide +kernel
theorem dMo_statement_22 : decode bMo_statement 22 = .ok (.invokestatic 82, 3) := by decide +kernel
theorem dMo_statement_25 : decode bMo_statement 25 = .ok (.ifCond .eq 7, 3) := by decide +kernel
theorem dMo_statement_28 : decode bMo_statement 28 = .ok (.iconst 0, 1) := by decide +kernel
theorem dMo_statement_29 : decode bMo_statement 29 = .ok (.goto 4, 3) := by decide +kernel
theorem dMo_statement_32 : decode bMo_statement 32 = .ok (.iconst 1, 1) := by decide +kernel
theorem dMo_statement_33 : decode bMo_statement 33 = .ok (.putfield 61, 3) := by decide +kernel
theorem dMo_statement_36 : decode bMo_statement 36 = .ok (.aload_n 0, 1) := by decide +kernel
theorem dMo_statement_37 : decode bMo_statement 37 = .ok (.getfield 61, 3) := by decide +kernel
theorem dMo_statement_40 : decode bMo_statement 40 = .ok (.ifCond .le 7, 3) := by decide +kernel
theorem dMo_statement_43 : decode bMo_statement 43 = .ok (.lconst 0, 1) := by decide +kernel
theorem dMo_statement_44 : decode bMo_statement 44 = .ok (.goto 20, 3) := by decide +kernel
theorem dMo_statement_47 : decode bMo_statement 47 = .ok (.aload_n 0, 1) := by decide +kernel
theorem dMo_statement_48 : decode bMo_statement 48 = .ok (.iload_n 1, 1) := by decide +kernel
theorem dMo_statement_49 : decode bMo_statement 49 = .ok (.bipush 30, 2) := by decide +kernel
theorem dMo_statement_51 : decode bMo_statement 51 = .ok (.iload_n 2, 1) := by decide +kernel
theorem dMo_statement_52 : decode bMo_statement 52 = .ok (.imul, 1) := by decide +kernel
theorem dMo_statement_53 : decode bMo_statement 53 = .ok (.bipush 30, 2) := by decide +kernel
theorem dMo_statement_55 : decode bMo_statement 55 = .ok (.iload_n 2, 1) := by decide +kernel
theorem dMo_statement_56 : decode bMo_statement 56 = .ok (.imul, 1) := by decide +kernel
theorem dMo_statement_57 : decode bMo_statement 57 = .ok (.bipush 29, 2) := by decide +kernel
theorem dMo_statement_59 : decode bMo_statement 59 = .ok (.iadd, 1) := by decide +kernel
theorem dMo_statement_60 : decode bMo_statement 60 = .ok (.iload_n 3, 1) := by decide +kernel
theorem dMo_statement_61 : decode bMo_statement 61 = .ok (.invokevirtual 123, 3) := by decide +kernel
theorem dMo_statement_64 : decode bMo_statement 64 = .ok (.lreturn, 1) := by decide +kernel
theorem dMo_part_0 : decode bMo_part 0 = .ok (.aload_n 0, 1) := by decide +kernel
theorem dMo_part_1 : decode bMo_part 1 = .ok (.iconst 0, 1) := by decide +kernel
theorem dMo_part_2 : decode bMo_part 2 = .ok (.putfield 61, 3) := by decide +kernel
theorem dMo_part_5 : decode bMo_part 5 = .ok (.iload_n 1, 1) := by decide +kernel
theorem dMo_part_6 : decode bMo_part 6 = .ok (.invokestatic 78, 3) := by decide +kernel
theorem dMo_part_9 : decode bMo_part 9 = .ok (.ifCond .eq 27, 3) := by decide +kernel
theorem dMo_part_12 : decode bMo_part 12 = .ok (.iload_n 2, 1) := by decide +kernel
theorem dMo_part_13 : decode bMo_part 13 = .ok (.i2l, 1) := by decide +kernel
theorem dMo_part_14 : decode bMo_part 14 = .ok (.lconst 0, 1) := by decide +kernel
theorem dMo_part_15 : decode bMo_part 15 = .ok (.ldc2_w 129, 3) := by decide +kernel
theorem dMo_part_18 : decode bMo_part 18 = .ok (.invokestatic 66, 3) := by decide +kernel
theorem dMo_part_21 : decode bMo_part 21 = .ok (.ifCond .eq 15, 3) := by decide +kernel
theorem dMo_part_24 : decode bMo_part 24 = .ok (.iload_n 3, 1) := by decide +kernel
theorem dMo_part_25 : decode bMo_part 25 = .ok (.i2l, 1) := by decide +kernel
theorem dMo_part_26 : decode bMo_part 26 = .ok (.lconst 0, 1) := by decide +kernel
theorem dMo_part_27 : decode bMo_part 27 = .ok (.ldc2_w 131, 3) := by decide +kernel
theorem dMo_part_30 : decode bMo_part 30 = .ok (.invokestatic 66, 3) := by decide +kernel
theorem dMo_part_33 : decode bMo_part 33 = .ok (.ifCond .ne 5, 3) := by decide +kernel
theorem dMo_part_36 : decode bMo_part 36 = .ok (.iconst 0, 1) := by decide +kernel
theorem dMo_part_37 : decode bMo_part 37 = .ok (.ireturn, 1) := by decide +kernel
theorem dMo_part_38 : decode bMo_part 38 = .ok (.aload_n 0, 1) := by decide +kernel
theorem dMo_part_39 : decode bMo_part 39 = .ok (.getfield 55, 3) := by decide +kernel
theorem dMo_part_42 : decode bMo_part 42 = .ok (.iconst 4, 1) := by decide +kernel
theorem dMo_part_43 : decode bMo_part 43 = .ok (.iload_n 1, 1) := by decide +kernel
theorem dMo_part_44 : decode bMo_part 44 = .ok (.imul, 1) := by decide +kernel
theorem dMo_part_45 : decode bMo_part 45 = .ok (.iload_n 2, 1) := by decide +kernel
theorem dMo_part_46 : decode bMo_part 46 = .ok (.iadd, 1) := by decide +kernel
theorem dMo_part_47 : decode bMo_part 47 = .ok (.iload_n 3, 1) := by decide +kernel
theorem dMo_part_48 : decode bMo_part 48 = .ok (.iastore, 1) := by decide +kernel
theorem dMo_part_49 : decode bMo_part 49 = .ok (.iconst 1, 1) := by decide +kernel
theorem dMo_part_50 : decode bMo_part 50 = .ok (.ireturn, 1) := by decide +kernel
theorem dMo_cost_0 : decode bMo_cost 0 = .ok (.aload_n 0, 1) := by decide +kernel
theorem dMo_cost_1 : decode bMo_cost 1 = .ok (.iconst 0, 1) := by decide +kernel
theorem dMo_cost_2 : decode bMo_cost 2 = .ok (.putfield 61, 3) := by decide +kernel
theorem dMo_cost_5 : decode bMo_cost 5 = .ok (.iload_n 1, 1) := by decide +kernel
theorem dMo_cost_6 : decode bMo_cost 6 = .ok (.invokestatic 78, 3) := by decide +kernel
theorem dMo_cost_9 : decode bMo_cost 9 = .ok (.ifCond .eq 15, 3) := by decide +kernel
theorem dMo_cost_12 : decode bMo_cost 12 = .ok (.iload_n 2, 1) := by decide +kernel
theorem dMo_cost_13 : decode bMo_cost 13 = .ok (.i2l, 1) := by decide +kernel
theorem dMo_cost_14 : decode bMo_cost 14 = .ok (.lconst 0, 1) := by decide +kernel
theorem dMo_cost_15 : decode bMo_cost 15 = .ok (.ldc2_w 131, 3) := by decide +kernel
theorem dMo_cost_18 : decode bMo_cost 18 = .ok (.invokestatic 66, 3) := by decide +kernel
theorem dMo_cost_21 : decode bMo_cost 21 = .ok (.ifCond .ne 5, 3) := by decide +kernel
theorem dMo_cost_24 : decode bMo_cost 24 = .ok (.iconst 0, 1) := by decide +kernel
theorem dMo_cost_25 : decode bMo_cost 25 = .ok (.ireturn, 1) := by decide +kernel
theorem dMo_cost_26 : decode bMo_cost 26 = .ok (.aload_n 0, 1) := by decide +kernel
theorem dMo_cost_27 : decode bMo_cost 27 = .ok (.getfield 58, 3) := by decide +kernel
theorem dMo_cost_30 : decode bMo_cost 30 = .ok (.iload_n 1, 1) := by decide +kernel
theorem dMo_cost_31 : decode bMo_cost 31 = .ok (.iload_n 2, 1) := by decide +kernel
theorem dMo_cost_32 : decode bMo_cost 32 = .ok (.iastore, 1) := by decide +kernel
theorem dMo_cost_33 : decode bMo_cost 33 = .ok (.iconst 1, 1) := by decide +kernel
theorem dMo_cost_34 : decode bMo_cost 34 = .ok (.ireturn, 1) := by decide +kernel
theorem dMo_passed_0 : decode bMo_passed 0 = .ok (.aload_n 0, 1) := by decide +kernel
theorem dMo_passed_1 : decode bMo_passed 1 = .ok (.iload_n 1, 1) := by decide +kernel
theorem dMo_passed_2 : decode bMo_passed 2 = .ok (.invokestatic 78, 3) := by decide +kernel
theorem dMo_passed_5 : decode bMo_passed 5 = .ok (.ifCond .eq 26, 3) := by decide +kernel
theorem dMo_passed_8 : decode bMo_passed 8 = .ok (.iload_n 2, 1) := by decide +kernel
theorem dMo_passed_9 : decode bMo_passed 9 = .ok (.i2l, 1) := by decide +kernel
theorem dMo_passed_10 : decode bMo_passed 10 = .ok (.lconst 0, 1) := by decide +kernel
theorem dMo_passed_11 : decode bMo_passed 11 = .ok (.ldc2_w 137, 3) := by decide +kernel
theorem dMo_passed_14 : decode bMo_passed 14 = .ok (.invokestatic 66, 3) := by decide +kernel
theorem dMo_passed_17 : decode bMo_passed 17 = .ok (.ifCond .eq 14, 3) := by decide +kernel
theorem dMo_passed_20 : decode bMo_passed 20 = .ok (.iload_n 3, 1) := by decide +kernel
theorem dMo_passed_21 : decode bMo_passed 21 = .ok (.invokestatic 82, 3) := by decide +kernel
theorem dMo_passed_24 : decode bMo_passed 24 = .ok (.ifCond .eq 7, 3) := by decide +kernel
theorem dMo_passed_27 : decode bMo_passed 27 = .ok (.iconst 0, 1) := by decide +kernel
theorem dMo_passed_28 : decode bMo_passed 28 = .ok (.goto 4, 3) := by decide +kernel
theorem dMo_passed_31 : decode bMo_passed 31 = .ok (.iconst 1, 1) := by decide +kernel
theorem dMo_passed_32 : decode bMo_passed 32 = .ok (.putfield 61, 3) := by decide +kernel
theorem dMo_passed_35 : decode bMo_passed 35 = .ok (.aload_n 0, 1) := by decide +kernel
theorem dMo_passed_36 : decode bMo_passed 36 = .ok (.getfield 61, 3) := by decide +kernel
theorem dMo_passed_39 : decode bMo_passed 39 = .ok (.ifCond .le 5, 3) := by decide +kernel
theorem dMo_passed_42 : decode bMo_passed 42 = .ok (.lconst 0, 1) := by decide +kernel
theorem dMo_passed_43 : decode bMo_passed 43 = .ok (.lreturn, 1) := by decide +kernel
theorem dMo_passed_44 : decode bMo_passed 44 = .ok (.aload_n 0, 1) := by decide +kernel
theorem dMo_passed_45 : decode bMo_passed 45 = .ok (.iload_n 1, 1) := by decide +kernel
theorem dMo_passed_46 : decode bMo_passed 46 = .ok (.iload_n 3, 1) := by decide +kernel
theorem dMo_passed_47 : decode bMo_passed 47 = .ok (.invokevirtual 139, 3) := by decide +kernel
theorem dMo_passed_50 : decode bMo_passed 50 = .ok (.lstore 4, 2) := by decide +kernel
theorem dMo_passed_52 : decode bMo_passed 52 = .ok (.lload 4, 2) := by decide +kernel
theorem dMo_passed_54 : decode bMo_passed 54 = .ok (.aload_n 0, 1) := by decide +kernel
theorem dMo_passed_55 : decode bMo_passed 55 = .ok (.getfield 58, 3) := by decide +kernel
theorem dMo_passed_58 : decode bMo_passed 58 = .ok (.iload_n 1, 1) := by decide +kernel
theorem dMo_passed_59 : decode bMo_passed 59 = .ok (.iaload, 1) := by decide +kernel
theorem dMo_passed_60 : decode bMo_passed 60 = .ok (.i2l, 1) := by decide +kernel
theorem dMo_passed_61 : decode bMo_passed 61 = .ok (.lmul, 1) := by decide +kernel
theorem dMo_passed_62 : decode bMo_passed 62 = .ok (.ldc2_w 131, 3) := by decide +kernel
theorem dMo_passed_65 : decode bMo_passed 65 = .ok (.ldiv, 1) := by decide +kernel
theorem dMo_passed_66 : decode bMo_passed 66 = .ok (.lstore 6, 2) := by decide +kernel
theorem dMo_passed_68 : decode bMo_passed 68 = .ok (.lconst 0, 1) := by decide +kernel
theorem dMo_passed_69 : decode bMo_passed 69 = .ok (.lstore 8, 2) := by decide +kernel
theorem dMo_passed_71 : decode bMo_passed 71 = .ok (.iconst 0, 1) := by decide +kernel
theorem dMo_passed_72 : decode bMo_passed 72 = .ok (.istore 10, 2) := by decide +kernel
theorem dMo_passed_74 : decode bMo_passed 74 = .ok (.iload 10, 2) := by decide +kernel
theorem dMo_passed_76 : decode bMo_passed 76 = .ok (.iconst 4, 1) := by decide +kernel
theorem dMo_passed_77 : decode bMo_passed 77 = .ok (.if_icmp .ge 26, 3) := by decide +kernel
theorem dMo_passed_80 : decode bMo_passed 80 = .ok (.lload 8, 2) := by decide +kernel
theorem dMo_passed_82 : decode bMo_passed 82 = .ok (.aload_n 0, 1) := by decide +kernel
theorem dMo_passed_83 : decode bMo_passed 83 = .ok (.iload_n 1, 1) := by decide +kernel
theorem dMo_passed_84 : decode bMo_passed 84 = .ok (.iload 10, 2) := by decide +kernel
theorem dMo_passed_86 : decode bMo_passed 86 = .ok (.lload 4, 2) := by decide +kernel
theorem dMo_passed_88 : decode bMo_passed 88 = .ok (.lload 6, 2) := by decide +kernel
theorem dMo_passed_90 : decode bMo_passed 90 = .ok (.lsub, 1) := by decide +kernel
theorem dMo_passed_91 : decode bMo_passed 91 = .ok (.invokevirtual 142, 3) := by decide +kernel
theorem dMo_passed_94 : decode bMo_passed 94 = .ok (.ladd, 1) := by decide +kernel
theorem dMo_passed_95 : decode bMo_passed 95 = .ok (.lstore 8, 2) := by decide +kernel
theorem dMo_passed_97 : decode bMo_passed 97 = .ok (.iinc 10 1, 3) := by decide +kernel
theorem dMo_passed_100 : decode bMo_passed 100 = .ok (.goto (-26), 3) := by decide +kernel
theorem dMo_passed_103 : decode bMo_passed 103 = .ok (.iload_n 2, 1) := by decide +kernel
theorem dMo_passed_104 : decode bMo_passed 104 = .ok (.iconst 4, 1) := by decide +kernel
theorem dMo_passed_105 : decode bMo_passed 105 = .ok (.if_icmp .ge 17, 3) := by decide +kernel
theorem dMo_passed_108 : decode bMo_passed 108 = .ok (.aload_n 0, 1) := by decide +kernel
theorem dMo_passed_109 : decode bMo_passed 109 = .ok (.iload_n 1, 1) := by decide +kernel
theorem dMo_passed_110 : decode bMo_passed 110 = .ok (.iload_n 2, 1) := by decide +kernel
theorem dMo_passed_111 : decode bMo_passed 111 = .ok (.lload 4, 2) := by decide +kernel
theorem dMo_passed_113 : decode bMo_passed 113 = .ok (.lload 6, 2) := by decide +kernel
theorem dMo_passed_115 : decode bMo_passed 115 = .ok (.lsub, 1) := by decide +kernel
theorem dMo_passed_116 : decode bMo_passed 116 = .ok (.invokevirtual 142, 3) := by decide +kernel
theorem dMo_passed_119 : decode bMo_passed 119 = .ok (.goto 28, 3) := by decide +kernel
theorem dMo_passed_122 : decode bMo_passed 122 = .ok (.iload_n 2, 1) := by decide +kernel
theorem dMo_passed_123 : decode bMo_passed 123 = .ok (.iconst 4, 1) := by decide +kernel
theorem dMo_passed_124 : decode bMo_passed 124 = .ok (.if_icmp .ne 8, 3) := by decide +kernel
theorem dMo_passed_127 : decode bMo_passed 127 = .ok (.lload 6, 2) := by decide +kernel
theorem dMo_passed_129 : decode bMo_passed 129 = .ok (.goto 18, 3) := by decide +kernel
theorem dMo_passed_132 : decode bMo_passed 132 = .ok (.iload_n 2, 1) := by decide +kernel
theorem dMo_passed_133 : decode bMo_passed 133 = .ok (.iconst 5, 1) := by decide +kernel
theorem dMo_passed_134 : decode bMo_passed 134 = .ok (.if_icmp .ne 11, 3) := by decide +kernel
theorem dMo_passed_137 : decode bMo_passed 137 = .ok (.lload 4, 2) := by decide +kernel
theorem dMo_passed_139 : decode bMo_passed 139 = .ok (.lload 8, 2) := by decide +kernel
theorem dMo_passed_141 : decode bMo_passed 141 = .ok (.lsub, 1) := by decide +kernel
theorem dMo_passed_142 : decode bMo_passed 142 = .ok (.goto 5, 3) := by decide +kernel
theorem dMo_passed_145 : decode bMo_passed 145 = .ok (.lload 4, 2) := by decide +kernel
theorem dMo_passed_147 : decode bMo_passed 147 = .ok (.lreturn, 1) := by decide +kernel
theorem dMo_sumOf_0 : decode bMo_sumOf 0 = .ok (.lconst 0, 1) := by decide +kernel
theorem dMo_sumOf_1 : decode bMo_sumOf 1 = .ok (.lstore_n 3, 1) := by decide +kernel
theorem dMo_sumOf_2 : decode bMo_sumOf 2 = .ok (.iconst 0, 1) := by decide +kernel
theorem dMo_sumOf_3 : decode bMo_sumOf 3 = .ok (.istore 5, 2) := by decide +kernel
theorem dMo_sumOf_5 : decode bMo_sumOf 5 = .ok (.iload 5, 2) := by decide +kernel
theorem dMo_sumOf_7 : decode bMo_sumOf 7 = .ok (.aload_n 0, 1) := by decide +kernel
theorem dMo_sumOf_8 : decode bMo_sumOf 8 = .ok (.getfield 72, 3) := by decide +kernel
theorem dMo_sumOf_11 : decode bMo_sumOf 11 = .ok (.if_icmp .ge 37, 3) := by decide +kernel
theorem dMo_sumOf_14 : decode bMo_sumOf 14 = .ok (.lload_n 3, 1) := by decide +kernel
theorem dMo_sumOf_15 : decode bMo_sumOf 15 = .ok (.aload_n 0, 1) := by decide +kernel
theorem dMo_sumOf_16 : decode bMo_sumOf 16 = .ok (.getfield 19, 3) := by decide +kernel
theorem dMo_sumOf_19 : decode bMo_sumOf 19 = .ok (.iload 5, 2) := by decide +kernel
theorem dMo_sumOf_21 : decode bMo_sumOf 21 = .ok (.iaload, 1) := by decide +kernel
theorem dMo_sumOf_22 : decode bMo_sumOf 22 = .ok (.iload_n 1, 1) := by decide +kernel
theorem dMo_sumOf_23 : decode bMo_sumOf 23 = .ok (.if_icmp .ne 16, 3) := by decide +kernel
theorem dMo_sumOf_26 : decode bMo_sumOf 26 = .ok (.aload_n 0, 1) := by decide +kernel
theorem dMo_sumOf_27 : decode bMo_sumOf 27 = .ok (.iload 5, 2) := by decide +kernel
theorem dMo_sumOf_29 : decode bMo_sumOf 29 = .ok (.iconst 0, 1) := by decide +kernel
theorem dMo_sumOf_30 : decode bMo_sumOf 30 = .ok (.ldc 133, 2) := by decide +kernel
theorem dMo_sumOf_32 : decode bMo_sumOf 32 = .ok (.iload_n 2, 1) := by decide +kernel
theorem dMo_sumOf_33 : decode bMo_sumOf 33 = .ok (.invokevirtual 123, 3) := by decide +kernel
theorem dMo_sumOf_36 : decode bMo_sumOf 36 = .ok (.goto 4, 3) := by decide +kernel
theorem dMo_sumOf_39 : decode bMo_sumOf 39 = .ok (.lconst 0, 1) := by decide +kernel
theorem dMo_sumOf_40 : decode bMo_sumOf 40 = .ok (.ladd, 1) := by decide +kernel
theorem dMo_sumOf_41 : decode bMo_sumOf 41 = .ok (.lstore_n 3, 1) := by decide +kernel
theorem dMo_sumOf_42 : decode bMo_sumOf 42 = .ok (.iinc 5 1, 3) := by decide +kernel
theorem dMo_sumOf_45 : decode bMo_sumOf 45 = .ok (.goto (-40), 3) := by decide +kernel
theorem dMo_sumOf_48 : decode bMo_sumOf 48 = .ok (.lload_n 3, 1) := by decide +kernel
theorem dMo_sumOf_49 : decode bMo_sumOf 49 = .ok (.lconst 0, 1) := by decide +kernel
theorem dMo_sumOf_50 : decode bMo_sumOf 50 = .ok (.lcmp, 1) := by decide +kernel
theorem dMo_sumOf_51 : decode bMo_sumOf 51 = .ok (.ifCond .le 7, 3) := by decide +kernel
theorem dMo_sumOf_54 : decode bMo_sumOf 54 = .ok (.lload_n 3, 1) := by decide +kernel
theorem dMo_sumOf_55 : decode bMo_sumOf 55 = .ok (.goto 4, 3) := by decide +kernel
theorem dMo_sumOf_58 : decode bMo_sumOf 58 = .ok (.lconst 0, 1) := by decide +kernel
theorem dMo_sumOf_59 : decode bMo_sumOf 59 = .ok (.lreturn, 1) := by decide +kernel
theorem dMo_share_0 : decode bMo_share 0 = .ok (.aload_n 0, 1) := by decide +kernel
theorem dMo_share_1 : decode bMo_share 1 = .ok (.iload_n 1, 1) := by decide +kernel
theorem dMo_share_2 : decode bMo_share 2 = .ok (.invokevirtual 134, 3) := by decide +kernel
theorem dMo_share_5 : decode bMo_share 5 = .ok (.istore 5, 2) := by decide +kernel
theorem dMo_share_7 : decode bMo_share 7 = .ok (.iload 5, 2) := by decide +kernel
theorem dMo_share_9 : decode bMo_share 9 = .ok (.ifCond .ne 5, 3) := by decide +kernel
theorem dMo_share_12 : decode bMo_share 12 = .ok (.lconst 0, 1) := by decide +kernel
theorem dMo_share_13 : decode bMo_share 13 = .ok (.lreturn, 1) := by decide +kernel
theorem dMo_share_14 : decode bMo_share 14 = .ok (.lload_n 3, 1) := by decide +kernel
theorem dMo_share_15 : decode bMo_share 15 = .ok (.lstore 6, 2) := by decide +kernel
theorem dMo_share_17 : decode bMo_share 17 = .ok (.iconst 0, 1) := by decide +kernel
theorem dMo_share_18 : decode bMo_share 18 = .ok (.istore 8, 2) := by decide +kernel
theorem dMo_share_20 : decode bMo_share 20 = .ok (.lload_n 3, 1) := by decide +kernel
theorem dMo_share_21 : decode bMo_share 21 = .ok (.aload_n 0, 1) := by decide +kernel
theorem dMo_share_22 : decode bMo_share 22 = .ok (.getfield 55, 3) := by decide +kernel
theorem dMo_share_25 : decode bMo_share 25 = .ok (.iconst 4, 1) := by decide +kernel
theorem dMo_share_26 : decode bMo_share 26 = .ok (.iload_n 1, 1) := by decide +kernel
theorem dMo_share_27 : decode bMo_share 27 = .ok (.imul, 1) := by decide +kernel
theorem dMo_share_28 : decode bMo_share 28 = .ok (.iload_n 2, 1) := by decide +kernel
theorem dMo_share_29 : decode bMo_share 29 = .ok (.iadd, 1) := by decide +kernel
theorem dMo_share_30 : decode bMo_share 30 = .ok (.iaload, 1) := by decide +kernel
theorem dMo_share_31 : decode bMo_share 31 = .ok (.i2l, 1) := by decide +kernel
theorem dMo_share_32 : decode bMo_share 32 = .ok (.lmul, 1) := by decide +kernel
theorem dMo_share_33 : decode bMo_share 33 = .ok (.iload 5, 2) := by decide +kernel
theorem dMo_share_35 : decode bMo_share 35 = .ok (.i2l, 1) := by decide +kernel
theorem dMo_share_36 : decode bMo_share 36 = .ok (.lrem, 1) := by decide +kernel
theorem dMo_share_37 : decode bMo_share 37 = .ok (.lstore 9, 2) := by decide +kernel
theorem dMo_share_39 : decode bMo_share 39 = .ok (.iconst 0, 1) := by decide +kernel
theorem dMo_share_40 : decode bMo_share 40 = .ok (.istore 11, 2) := by decide +kernel
theorem dMo_share_42 : decode bMo_share 42 = .ok (.iload 11, 2) := by decide +kernel
theorem dMo_share_44 : decode bMo_share 44 = .ok (.iconst 4, 1) := by decide +kernel
theorem dMo_share_45 : decode bMo_share 45 = .ok (.if_icmp .ge 76, 3) := by decide +kernel
theorem dMo_share_48 : decode bMo_share 48 = .ok (.lload_n 3, 1) := by decide +kernel
theorem dMo_share_49 : decode bMo_share 49 = .ok (.aload_n 0, 1) := by decide +kernel
theorem dMo_share_50 : decode bMo_share 50 = .ok (.getfield 55, 3) := by decide +kernel
theorem dMo_share_53 : decode bMo_share 53 = .ok (.iconst 4, 1) := by decide +kernel
theorem dMo_share_54 : decode bMo_share 54 = .ok (.iload_n 1, 1) := by decide +kernel
theorem dMo_share_55 : decode bMo_share 55 = .ok (.imul, 1) := by decide +kernel
theorem dMo_share_56 : decode bMo_share 56 = .ok (.iload 11, 2) := by decide +kernel
theorem dMo_share_58 : decode bMo_share 58 = .ok (.iadd, 1) := by decide +kernel
theorem dMo_share_59 : decode bMo_share 59 = .ok (.iaload, 1) := by decide +kernel
theorem dMo_share_60 : decode bMo_share 60 = .ok (.i2l, 1) := by decide +kernel
theorem dMo_share_61 : decode bMo_share 61 = .ok (.lmul, 1) := by decide +kernel
theorem dMo_share_62 : decode bMo_share 62 = .ok (.lstore 12, 2) := by decide +kernel
theorem dMo_share_64 : decode bMo_share 64 = .ok (.lload 6, 2) := by decide +kernel
theorem dMo_share_66 : decode bMo_share 66 = .ok (.lload 12, 2) := by decide +kernel
theorem dMo_share_68 : decode bMo_share 68 = .ok (.iload 5, 2) := by decide +kernel
theorem dMo_share_70 : decode bMo_share 70 = .ok (.i2l, 1) := by decide +kernel
theorem dMo_share_71 : decode bMo_share 71 = .ok (.ldiv, 1) := by decide +kernel
theorem dMo_share_72 : decode bMo_share 72 = .ok (.lsub, 1) := by decide +kernel
theorem dMo_share_73 : decode bMo_share 73 = .ok (.lstore 6, 2) := by decide +kernel
theorem dMo_share_75 : decode bMo_share 75 = .ok (.iload 8, 2) := by decide +kernel
theorem dMo_share_77 : decode bMo_share 77 = .ok (.lload 12, 2) := by decide +kernel
theorem dMo_share_79 : decode bMo_share 79 = .ok (.iload 5, 2) := by decide +kernel
theorem dMo_share_81 : decode bMo_share 81 = .ok (.i2l, 1) := by decide +kernel
theorem dMo_share_82 : decode bMo_share 82 = .ok (.lrem, 1) := by decide +kernel
theorem dMo_share_83 : decode bMo_share 83 = .ok (.lload 9, 2) := by decide +kernel
theorem dMo_share_85 : decode bMo_share 85 = .ok (.lcmp, 1) := by decide +kernel
theorem dMo_share_86 : decode bMo_share 86 = .ok (.ifCond .gt 21, 3) := by decide +kernel
theorem dMo_share_89 : decode bMo_share 89 = .ok (.lload 12, 2) := by decide +kernel
theorem dMo_share_91 : decode bMo_share 91 = .ok (.iload 5, 2) := by decide +kernel
theorem dMo_share_93 : decode bMo_share 93 = .ok (.i2l, 1) := by decide +kernel
theorem dMo_share_94 : decode bMo_share 94 = .ok (.lrem, 1) := by decide +kernel
theorem dMo_share_95 : decode bMo_share 95 = .ok (.lload 9, 2) := by decide +kernel
theorem dMo_share_97 : decode bMo_share 97 = .ok (.lcmp, 1) := by decide +kernel
theorem dMo_share_98 : decode bMo_share 98 = .ok (.ifCond .ne 13, 3) := by decide +kernel
theorem dMo_share_101 : decode bMo_share 101 = .ok (.iload 11, 2) := by decide +kernel
theorem dMo_share_103 : decode bMo_share 103 = .ok (.iload_n 2, 1) := by decide +kernel
theorem dMo_share_104 : decode bMo_share 104 = .ok (.if_icmp .ge 7, 3) := by decide +kernel
theorem dMo_share_107 : decode bMo_share 107 = .ok (.iconst 1, 1) := by decide +kernel
theorem dMo_share_108 : decode bMo_share 108 = .ok (.goto 4, 3) := by decide +kernel
theorem dMo_share_111 : decode bMo_share 111 = .ok (.iconst 0, 1) := by decide +kernel
theorem dMo_share_112 : decode bMo_share 112 = .ok (.iadd, 1) := by decide +kernel
theorem dMo_share_113 : decode bMo_share 113 = .ok (.istore 8, 2) := by decide +kernel
theorem dMo_share_115 : decode bMo_share 115 = .ok (.iinc 11 1, 3) := by decide +kernel
theorem dMo_share_118 : decode bMo_share 118 = .ok (.goto (-76), 3) := by decide +kernel
theorem dMo_share_121 : decode bMo_share 121 = .ok (.lload_n 3, 1) := by decide +kernel
theorem dMo_share_122 : decode bMo_share 122 = .ok (.aload_n 0, 1) := by decide +kernel
theorem dMo_share_123 : decode bMo_share 123 = .ok (.getfield 55, 3) := by decide +kernel
theorem dMo_share_126 : decode bMo_share 126 = .ok (.iconst 4, 1) := by decide +kernel
theorem dMo_share_127 : decode bMo_share 127 = .ok (.iload_n 1, 1) := by decide +kernel
theorem dMo_share_128 : decode bMo_share 128 = .ok (.imul, 1) := by decide +kernel
theorem dMo_share_129 : decode bMo_share 129 = .ok (.iload_n 2, 1) := by decide +kernel
theorem dMo_share_130 : decode bMo_share 130 = .ok (.iadd, 1) := by decide +kernel
theorem dMo_share_131 : decode bMo_share 131 = .ok (.iaload, 1) := by decide +kernel
theorem dMo_share_132 : decode bMo_share 132 = .ok (.i2l, 1) := by decide +kernel
theorem dMo_share_133 : decode bMo_share 133 = .ok (.lmul, 1) := by decide +kernel
theorem dMo_share_134 : decode bMo_share 134 = .ok (.iload 5, 2) := by decide +kernel
theorem dMo_share_136 : decode bMo_share 136 = .ok (.i2l, 1) := by decide +kernel
theorem dMo_share_137 : decode bMo_share 137 = .ok (.ldiv, 1) := by decide +kernel
theorem dMo_share_138 : decode bMo_share 138 = .ok (.iload 8, 2) := by decide +kernel
theorem dMo_share_140 : decode bMo_share 140 = .ok (.i2l, 1) := by decide +kernel
theorem dMo_share_141 : decode bMo_share 141 = .ok (.lload 6, 2) := by decide +kernel
theorem dMo_share_143 : decode bMo_share 143 = .ok (.lcmp, 1) := by decide +kernel
theorem dMo_share_144 : decode bMo_share 144 = .ok (.ifCond .ge 7, 3) := by decide +kernel
theorem dMo_share_147 : decode bMo_share 147 = .ok (.lconst 1, 1) := by decide +kernel
theorem dMo_share_148 : decode bMo_share 148 = .ok (.goto 4, 3) := by decide +kernel
theorem dMo_share_151 : decode bMo_share 151 = .ok (.lconst 0, 1) := by decide +kernel
theorem dMo_share_152 : decode bMo_share 152 = .ok (.ladd, 1) := by decide +kernel
theorem dMo_share_153 : decode bMo_share 153 = .ok (.lreturn, 1) := by decide +kernel
theorem dMo_partsOf_0 : decode bMo_partsOf 0 = .ok (.aload_n 0, 1) := by decide +kernel
theorem dMo_partsOf_1 : decode bMo_partsOf 1 = .ok (.getfield 55, 3) := by decide +kernel
theorem dMo_partsOf_4 : decode bMo_partsOf 4 = .ok (.iconst 4, 1) := by decide +kernel
theorem dMo_partsOf_5 : decode bMo_partsOf 5 = .ok (.iload_n 1, 1) := by decide +kernel
theorem dMo_partsOf_6 : decode bMo_partsOf 6 = .ok (.imul, 1) := by decide +kernel
theorem dMo_partsOf_7 : decode bMo_partsOf 7 = .ok (.iaload, 1) := by decide +kernel
theorem dMo_partsOf_8 : decode bMo_partsOf 8 = .ok (.aload_n 0, 1) := by decide +kernel
theorem dMo_partsOf_9 : decode bMo_partsOf 9 = .ok (.getfield 55, 3) := by decide +kernel
theorem dMo_partsOf_12 : decode bMo_partsOf 12 = .ok (.iconst 4, 1) := by decide +kernel
theorem dMo_partsOf_13 : decode bMo_partsOf 13 = .ok (.iload_n 1, 1) := by decide +kernel
theorem dMo_partsOf_14 : decode bMo_partsOf 14 = .ok (.imul, 1) := by decide +kernel
theorem dMo_partsOf_15 : decode bMo_partsOf 15 = .ok (.iconst 1, 1) := by decide +kernel
theorem dMo_partsOf_16 : decode bMo_partsOf 16 = .ok (.iadd, 1) := by decide +kernel
theorem dMo_partsOf_17 : decode bMo_partsOf 17 = .ok (.iaload, 1) := by decide +kernel
theorem dMo_partsOf_18 : decode bMo_partsOf 18 = .ok (.iadd, 1) := by decide +kernel
theorem dMo_partsOf_19 : decode bMo_partsOf 19 = .ok (.aload_n 0, 1) := by decide +kernel
theorem dMo_partsOf_20 : decode bMo_partsOf 20 = .ok (.getfield 55, 3) := by decide +kernel
theorem dMo_partsOf_23 : decode bMo_partsOf 23 = .ok (.iconst 4, 1) := by decide +kernel
theorem dMo_partsOf_24 : decode bMo_partsOf 24 = .ok (.iload_n 1, 1) := by decide +kernel
theorem dMo_partsOf_25 : decode bMo_partsOf 25 = .ok (.imul, 1) := by decide +kernel
theorem dMo_partsOf_26 : decode bMo_partsOf 26 = .ok (.iconst 2, 1) := by decide +kernel
theorem dMo_partsOf_27 : decode bMo_partsOf 27 = .ok (.iadd, 1) := by decide +kernel
theorem dMo_partsOf_28 : decode bMo_partsOf 28 = .ok (.iaload, 1) := by decide +kernel
theorem dMo_partsOf_29 : decode bMo_partsOf 29 = .ok (.iadd, 1) := by decide +kernel
theorem dMo_partsOf_30 : decode bMo_partsOf 30 = .ok (.aload_n 0, 1) := by decide +kernel
theorem dMo_partsOf_31 : decode bMo_partsOf 31 = .ok (.getfield 55, 3) := by decide +kernel
theorem dMo_partsOf_34 : decode bMo_partsOf 34 = .ok (.iconst 4, 1) := by decide +kernel
theorem dMo_partsOf_35 : decode bMo_partsOf 35 = .ok (.iload_n 1, 1) := by decide +kernel
theorem dMo_partsOf_36 : decode bMo_partsOf 36 = .ok (.imul, 1) := by decide +kernel
theorem dMo_partsOf_37 : decode bMo_partsOf 37 = .ok (.iconst 3, 1) := by decide +kernel
theorem dMo_partsOf_38 : decode bMo_partsOf 38 = .ok (.iadd, 1) := by decide +kernel
theorem dMo_partsOf_39 : decode bMo_partsOf 39 = .ok (.iaload, 1) := by decide +kernel
theorem dMo_partsOf_40 : decode bMo_partsOf 40 = .ok (.iadd, 1) := by decide +kernel
theorem dMo_partsOf_41 : decode bMo_partsOf 41 = .ok (.ireturn, 1) := by decide +kernel
theorem dMo_reconcile_0 : decode bMo_reconcile 0 = .ok (.aload_n 0, 1) := by decide +kernel
theorem dMo_reconcile_1 : decode bMo_reconcile 1 = .ok (.aload_n 0, 1) := by decide +kernel
theorem dMo_reconcile_2 : decode bMo_reconcile 2 = .ok (.iload_n 1, 1) := by decide +kernel
theorem dMo_reconcile_3 : decode bMo_reconcile 3 = .ok (.invokevirtual 92, 3) := by decide +kernel
theorem dMo_reconcile_6 : decode bMo_reconcile 6 = .ok (.ifCond .eq 35, 3) := by decide +kernel
theorem dMo_reconcile_9 : decode bMo_reconcile 9 = .ok (.aload_n 0, 1) := by decide +kernel
theorem dMo_reconcile_10 : decode bMo_reconcile 10 = .ok (.iload_n 2, 1) := by decide +kernel
theorem dMo_reconcile_11 : decode bMo_reconcile 11 = .ok (.invokevirtual 92, 3) := by decide +kernel
theorem dMo_reconcile_14 : decode bMo_reconcile 14 = .ok (.ifCond .eq 27, 3) := by decide +kernel
theorem dMo_reconcile_17 : decode bMo_reconcile 17 = .ok (.iload_n 1, 1) := by decide +kernel
theorem dMo_reconcile_18 : decode bMo_reconcile 18 = .ok (.iload_n 2, 1) := by decide +kernel
theorem dMo_reconcile_19 : decode bMo_reconcile 19 = .ok (.if_icmp .eq 22, 3) := by decide +kernel
theorem dMo_reconcile_22 : decode bMo_reconcile 22 = .ok (.iload_n 3, 1) := by decide +kernel
theorem dMo_reconcile_23 : decode bMo_reconcile 23 = .ok (.invokestatic 82, 3) := by decide +kernel
theorem dMo_reconcile_26 : decode bMo_reconcile 26 = .ok (.ifCond .eq 15, 3) := by decide +kernel
theorem dMo_reconcile_29 : decode bMo_reconcile 29 = .ok (.iload 4, 2) := by decide +kernel
theorem dMo_reconcile_31 : decode bMo_reconcile 31 = .ok (.invokestatic 82, 3) := by decide +kernel
theorem dMo_reconcile_34 : decode bMo_reconcile 34 = .ok (.ifCond .eq 7, 3) := by decide +kernel
theorem dMo_reconcile_37 : decode bMo_reconcile 37 = .ok (.iconst 0, 1) := by decide +kernel
theorem dMo_reconcile_38 : decode bMo_reconcile 38 = .ok (.goto 4, 3) := by decide +kernel
theorem dMo_reconcile_41 : decode bMo_reconcile 41 = .ok (.iconst 1, 1) := by decide +kernel
theorem dMo_reconcile_42 : decode bMo_reconcile 42 = .ok (.putfield 61, 3) := by decide +kernel
theorem dMo_reconcile_45 : decode bMo_reconcile 45 = .ok (.aload_n 0, 1) := by decide +kernel
theorem dMo_reconcile_46 : decode bMo_reconcile 46 = .ok (.getfield 61, 3) := by decide +kernel
theorem dMo_reconcile_49 : decode bMo_reconcile 49 = .ok (.ifCond .le 7, 3) := by decide +kernel
theorem dMo_reconcile_52 : decode bMo_reconcile 52 = .ok (.lconst 0, 1) := by decide +kernel
theorem dMo_reconcile_53 : decode bMo_reconcile 53 = .ok (.goto 22, 3) := by decide +kernel
theorem dMo_reconcile_56 : decode bMo_reconcile 56 = .ok (.aload_n 0, 1) := by decide +kernel
theorem dMo_reconcile_57 : decode bMo_reconcile 57 = .ok (.iload_n 1, 1) := by decide +kernel
theorem dMo_reconcile_58 : decode bMo_reconcile 58 = .ok (.iconst 0, 1) := by decide +kernel
theorem dMo_reconcile_59 : decode bMo_reconcile 59 = .ok (.iload_n 3, 1) := by decide +kernel
theorem dMo_reconcile_60 : decode bMo_reconcile 60 = .ok (.iload 4, 2) := by decide +kernel
theorem dMo_reconcile_62 : decode bMo_reconcile 62 = .ok (.invokevirtual 123, 3) := by decide +kernel
theorem dMo_reconcile_65 : decode bMo_reconcile 65 = .ok (.aload_n 0, 1) := by decide +kernel
theorem dMo_reconcile_66 : decode bMo_reconcile 66 = .ok (.iload_n 2, 1) := by decide +kernel
theorem dMo_reconcile_67 : decode bMo_reconcile 67 = .ok (.iconst 0, 1) := by decide +kernel
theorem dMo_reconcile_68 : decode bMo_reconcile 68 = .ok (.iload_n 3, 1) := by decide +kernel
theorem dMo_reconcile_69 : decode bMo_reconcile 69 = .ok (.iload 4, 2) := by decide +kernel
theorem dMo_reconcile_71 : decode bMo_reconcile 71 = .ok (.invokevirtual 123, 3) := by decide +kernel
theorem dMo_reconcile_74 : decode bMo_reconcile 74 = .ok (.ladd, 1) := by decide +kernel
theorem dMo_reconcile_75 : decode bMo_reconcile 75 = .ok (.lreturn, 1) := by decide +kernel
theorem dMo_read_0 : decode bMo_read 0 = .ok (.aload_n 0, 1) := by decide +kernel
theorem dMo_read_1 : decode bMo_read 1 = .ok (.iload_n 1, 1) := by decide +kernel
theorem dMo_read_2 : decode bMo_read 2 = .ok (.ifCond .lt 24, 3) := by decide +kernel
theorem dMo_read_5 : decode bMo_read 5 = .ok (.iload_n 1, 1) := by decide +kernel
theorem dMo_read_6 : decode bMo_read 6 = .ok (.aload_n 0, 1) := by decide +kernel
theorem dMo_read_7 : decode bMo_read 7 = .ok (.getfield 103, 3) := by decide +kernel
theorem dMo_read_10 : decode bMo_read 10 = .ok (.if_icmp .ge 16, 3) := by decide +kernel
theorem dMo_read_13 : decode bMo_read 13 = .ok (.iload_n 2, 1) := by decide +kernel
theorem dMo_read_14 : decode bMo_read 14 = .ok (.ifCond .lt 12, 3) := by decide +kernel
theorem dMo_read_17 : decode bMo_read 17 = .ok (.iload_n 2, 1) := by decide +kernel
theorem dMo_read_18 : decode bMo_read 18 = .ok (.iconst 5, 1) := by decide +kernel
theorem dMo_read_19 : decode bMo_read 19 = .ok (.if_icmp .ge 7, 3) := by decide +kernel
theorem dMo_read_22 : decode bMo_read 22 = .ok (.iconst 0, 1) := by decide +kernel
theorem dMo_read_23 : decode bMo_read 23 = .ok (.goto 4, 3) := by decide +kernel
theorem dMo_read_26 : decode bMo_read 26 = .ok (.iconst 1, 1) := by decide +kernel
theorem dMo_read_27 : decode bMo_read 27 = .ok (.putfield 61, 3) := by decide +kernel
theorem dMo_read_30 : decode bMo_read 30 = .ok (.aload_n 0, 1) := by decide +kernel
theorem dMo_read_31 : decode bMo_read 31 = .ok (.getfield 61, 3) := by decide +kernel
theorem dMo_read_34 : decode bMo_read 34 = .ok (.ifCond .le 5, 3) := by decide +kernel
theorem dMo_read_37 : decode bMo_read 37 = .ok (.lconst 0, 1) := by decide +kernel
theorem dMo_read_38 : decode bMo_read 38 = .ok (.lreturn, 1) := by decide +kernel
theorem dMo_read_39 : decode bMo_read 39 = .ok (.aload_n 0, 1) := by decide +kernel
theorem dMo_read_40 : decode bMo_read 40 = .ok (.getfield 52, 3) := by decide +kernel
theorem dMo_read_43 : decode bMo_read 43 = .ok (.iload_n 1, 1) := by decide +kernel
theorem dMo_read_44 : decode bMo_read 44 = .ok (.iaload, 1) := by decide +kernel
theorem dMo_read_45 : decode bMo_read 45 = .ok (.bipush 20, 2) := by decide +kernel
theorem dMo_read_47 : decode bMo_read 47 = .ok (.idiv, 1) := by decide +kernel
theorem dMo_read_48 : decode bMo_read 48 = .ok (.istore_n 3, 1) := by decide +kernel
theorem dMo_read_49 : decode bMo_read 49 = .ok (.iload_n 2, 1) := by decide +kernel
theorem dMo_read_50 : decode bMo_read 50 = .ok (.tableswitch 66 0 3 #[30, 33, 46, 58], 30) := by decide +kernel
theorem dMo_read_80 : decode bMo_read 80 = .ok (.iload_n 3, 1) := by decide +kernel
theorem dMo_read_81 : decode bMo_read 81 = .ok (.i2l, 1) := by decide +kernel
theorem dMo_read_82 : decode bMo_read 82 = .ok (.lreturn, 1) := by decide +kernel
theorem dMo_read_83 : decode bMo_read 83 = .ok (.aload_n 0, 1) := by decide +kernel
theorem dMo_read_84 : decode bMo_read 84 = .ok (.getfield 45, 3) := by decide +kernel
theorem dMo_read_87 : decode bMo_read 87 = .ok (.aload_n 0, 1) := by decide +kernel
theorem dMo_read_88 : decode bMo_read 88 = .ok (.getfield 52, 3) := by decide +kernel
theorem dMo_read_91 : decode bMo_read 91 = .ok (.iload_n 1, 1) := by decide +kernel
theorem dMo_read_92 : decode bMo_read 92 = .ok (.iaload, 1) := by decide +kernel
theorem dMo_read_93 : decode bMo_read 93 = .ok (.iaload, 1) := by decide +kernel
theorem dMo_read_94 : decode bMo_read 94 = .ok (.i2l, 1) := by decide +kernel
theorem dMo_read_95 : decode bMo_read 95 = .ok (.lreturn, 1) := by decide +kernel
theorem dMo_read_96 : decode bMo_read 96 = .ok (.aload_n 0, 1) := by decide +kernel
theorem dMo_read_97 : decode bMo_read 97 = .ok (.getfield 48, 3) := by decide +kernel
theorem dMo_read_100 : decode bMo_read 100 = .ok (.aload_n 0, 1) := by decide +kernel
theorem dMo_read_101 : decode bMo_read 101 = .ok (.getfield 52, 3) := by decide +kernel
theorem dMo_read_104 : decode bMo_read 104 = .ok (.iload_n 1, 1) := by decide +kernel
theorem dMo_read_105 : decode bMo_read 105 = .ok (.iaload, 1) := by decide +kernel
theorem dMo_read_106 : decode bMo_read 106 = .ok (.laload, 1) := by decide +kernel
theorem dMo_read_107 : decode bMo_read 107 = .ok (.lreturn, 1) := by decide +kernel
theorem dMo_read_108 : decode bMo_read 108 = .ok (.aload_n 0, 1) := by decide +kernel
theorem dMo_read_109 : decode bMo_read 109 = .ok (.getfield 26, 3) := by decide +kernel
theorem dMo_read_112 : decode bMo_read 112 = .ok (.iload_n 3, 1) := by decide +kernel
theorem dMo_read_113 : decode bMo_read 113 = .ok (.iaload, 1) := by decide +kernel
theorem dMo_read_114 : decode bMo_read 114 = .ok (.i2l, 1) := by decide +kernel
theorem dMo_read_115 : decode bMo_read 115 = .ok (.lreturn, 1) := by decide +kernel
theorem dMo_read_116 : decode bMo_read 116 = .ok (.aload_n 0, 1) := by decide +kernel
theorem dMo_read_117 : decode bMo_read 117 = .ok (.getfield 29, 3) := by decide +kernel
theorem dMo_read_120 : decode bMo_read 120 = .ok (.iload_n 3, 1) := by decide +kernel
theorem dMo_read_121 : decode bMo_read 121 = .ok (.iaload, 1) := by decide +kernel
theorem dMo_read_122 : decode bMo_read 122 = .ok (.i2l, 1) := by decide +kernel
theorem dMo_read_123 : decode bMo_read 123 = .ok (.lreturn, 1) := by decide +kernel
theorem dMo_look_0 : decode bMo_look 0 = .ok (.aload_n 0, 1) := by decide +kernel
theorem dMo_look_1 : decode bMo_look 1 = .ok (.iload_n 1, 1) := by decide +kernel
theorem dMo_look_2 : decode bMo_look 2 = .ok (.ifCond .lt 25, 3) := by decide +kernel
theorem dMo_look_5 : decode bMo_look 5 = .ok (.iload_n 1, 1) := by decide +kernel
theorem dMo_look_6 : decode bMo_look 6 = .ok (.aload_n 0, 1) := by decide +kernel
theorem dMo_look_7 : decode bMo_look 7 = .ok (.getfield 75, 3) := by decide +kernel
theorem dMo_look_10 : decode bMo_look 10 = .ok (.if_icmp .ge 17, 3) := by decide +kernel
theorem dMo_look_13 : decode bMo_look 13 = .ok (.iload_n 2, 1) := by decide +kernel
theorem dMo_look_14 : decode bMo_look 14 = .ok (.ifCond .lt 13, 3) := by decide +kernel
theorem dMo_look_17 : decode bMo_look 17 = .ok (.iload_n 2, 1) := by decide +kernel
theorem dMo_look_18 : decode bMo_look 18 = .ok (.bipush 7, 2) := by decide +kernel
theorem dMo_look_20 : decode bMo_look 20 = .ok (.if_icmp .ge 7, 3) := by decide +kernel
theorem dMo_look_23 : decode bMo_look 23 = .ok (.iconst 0, 1) := by decide +kernel
theorem dMo_look_24 : decode bMo_look 24 = .ok (.goto 4, 3) := by decide +kernel
theorem dMo_look_27 : decode bMo_look 27 = .ok (.iconst 1, 1) := by decide +kernel
theorem dMo_look_28 : decode bMo_look 28 = .ok (.putfield 61, 3) := by decide +kernel
theorem dMo_look_31 : decode bMo_look 31 = .ok (.aload_n 0, 1) := by decide +kernel
theorem dMo_look_32 : decode bMo_look 32 = .ok (.getfield 61, 3) := by decide +kernel
theorem dMo_look_35 : decode bMo_look 35 = .ok (.ifCond .le 5, 3) := by decide +kernel
theorem dMo_look_38 : decode bMo_look 38 = .ok (.iconst 0, 1) := by decide +kernel
theorem dMo_look_39 : decode bMo_look 39 = .ok (.ireturn, 1) := by decide +kernel
theorem dMo_look_40 : decode bMo_look 40 = .ok (.iload_n 2, 1) := by decide +kernel
theorem dMo_look_41 : decode bMo_look 41 = .ok (.tableswitch 103 0 5 #[39, 46, 67, 74, 81, 96], 39) := by decide +kernel
theorem dMo_look_80 : decode bMo_look 80 = .ok (.aload_n 0, 1) := by decide +kernel
theorem dMo_look_81 : decode bMo_look 81 = .ok (.getfield 23, 3) := by decide +kernel
theorem dMo_look_84 : decode bMo_look 84 = .ok (.iload_n 1, 1) := by decide +kernel
theorem dMo_look_85 : decode bMo_look 85 = .ok (.iaload, 1) := by decide +kernel
theorem dMo_look_86 : decode bMo_look 86 = .ok (.ireturn, 1) := by decide +kernel
theorem dMo_look_87 : decode bMo_look 87 = .ok (.aload_n 0, 1) := by decide +kernel
theorem dMo_look_88 : decode bMo_look 88 = .ok (.getfield 23, 3) := by decide +kernel
theorem dMo_look_91 : decode bMo_look 91 = .ok (.iload_n 1, 1) := by decide +kernel
theorem dMo_look_92 : decode bMo_look 92 = .ok (.iaload, 1) := by decide +kernel
theorem dMo_look_93 : decode bMo_look 93 = .ok (.iconst 2, 1) := by decide +kernel
theorem dMo_look_94 : decode bMo_look 94 = .ok (.if_icmp .ne 7, 3) := by decide +kernel
theorem dMo_look_97 : decode bMo_look 97 = .ok (.iconst 0, 1) := by decide +kernel
theorem dMo_look_98 : decode bMo_look 98 = .ok (.goto 9, 3) := by decide +kernel
theorem dMo_look_101 : decode bMo_look 101 = .ok (.aload_n 0, 1) := by decide +kernel
theorem dMo_look_102 : decode bMo_look 102 = .ok (.getfield 42, 3) := by decide +kernel
theorem dMo_look_105 : decode bMo_look 105 = .ok (.iload_n 1, 1) := by decide +kernel
theorem dMo_look_106 : decode bMo_look 106 = .ok (.iaload, 1) := by decide +kernel
theorem dMo_look_107 : decode bMo_look 107 = .ok (.ireturn, 1) := by decide +kernel
theorem dMo_look_108 : decode bMo_look 108 = .ok (.aload_n 0, 1) := by decide +kernel
theorem dMo_look_109 : decode bMo_look 109 = .ok (.getfield 32, 3) := by decide +kernel
theorem dMo_look_112 : decode bMo_look 112 = .ok (.iload_n 1, 1) := by decide +kernel
theorem dMo_look_113 : decode bMo_look 113 = .ok (.iaload, 1) := by decide +kernel
theorem dMo_look_114 : decode bMo_look 114 = .ok (.ireturn, 1) := by decide +kernel
theorem dMo_look_115 : decode bMo_look 115 = .ok (.aload_n 0, 1) := by decide +kernel
theorem dMo_look_116 : decode bMo_look 116 = .ok (.getfield 35, 3) := by decide +kernel
theorem dMo_look_119 : decode bMo_look 119 = .ok (.iload_n 1, 1) := by decide +kernel
theorem dMo_look_120 : decode bMo_look 120 = .ok (.iaload, 1) := by decide +kernel
theorem dMo_look_121 : decode bMo_look 121 = .ok (.ireturn, 1) := by decide +kernel
theorem dMo_look_122 : decode bMo_look 122 = .ok (.aload_n 0, 1) := by decide +kernel
theorem dMo_look_123 : decode bMo_look 123 = .ok (.getfield 38, 3) := by decide +kernel
theorem dMo_look_126 : decode bMo_look 126 = .ok (.iload_n 1, 1) := by decide +kernel
theorem dMo_look_127 : decode bMo_look 127 = .ok (.baload, 1) := by decide +kernel
theorem dMo_look_128 : decode bMo_look 128 = .ok (.ifCond .eq 7, 3) := by decide +kernel
theorem dMo_look_131 : decode bMo_look 131 = .ok (.iconst 1, 1) := by decide +kernel
theorem dMo_look_132 : decode bMo_look 132 = .ok (.goto 4, 3) := by decide +kernel
theorem dMo_look_135 : decode bMo_look 135 = .ok (.iconst 0, 1) := by decide +kernel
theorem dMo_look_136 : decode bMo_look 136 = .ok (.ireturn, 1) := by decide +kernel
theorem dMo_look_137 : decode bMo_look 137 = .ok (.aload_n 0, 1) := by decide +kernel
theorem dMo_look_138 : decode bMo_look 138 = .ok (.getfield 26, 3) := by decide +kernel
theorem dMo_look_141 : decode bMo_look 141 = .ok (.iload_n 1, 1) := by decide +kernel
theorem dMo_look_142 : decode bMo_look 142 = .ok (.iaload, 1) := by decide +kernel
theorem dMo_look_143 : decode bMo_look 143 = .ok (.ireturn, 1) := by decide +kernel
theorem dMo_look_144 : decode bMo_look 144 = .ok (.aload_n 0, 1) := by decide +kernel
theorem dMo_look_145 : decode bMo_look 145 = .ok (.getfield 29, 3) := by decide +kernel
theorem dMo_look_148 : decode bMo_look 148 = .ok (.iload_n 1, 1) := by decide +kernel
theorem dMo_look_149 : decode bMo_look 149 = .ok (.iaload, 1) := by decide +kernel
theorem dMo_look_150 : decode bMo_look 150 = .ok (.ireturn, 1) := by decide +kernel
theorem dMo_count_0 : decode bMo_count 0 = .ok (.aload_n 0, 1) := by decide +kernel
theorem dMo_count_1 : decode bMo_count 1 = .ok (.iconst 0, 1) := by decide +kernel
theorem dMo_count_2 : decode bMo_count 2 = .ok (.putfield 61, 3) := by decide +kernel
theorem dMo_count_5 : decode bMo_count 5 = .ok (.iload_n 1, 1) := by decide +kernel
theorem dMo_count_6 : decode bMo_count 6 = .ok (.tableswitch 92 0 8 #[50, 55, 60, 65, 70, 75, 80, 85, 87], 50) := by decide +kernel
theorem dMo_count_56 : decode bMo_count 56 = .ok (.aload_n 0, 1) := by decide +kernel
theorem dMo_count_57 : decode bMo_count 57 = .ok (.getfield 72, 3) := by decide +kernel
theorem dMo_count_60 : decode bMo_count 60 = .ok (.ireturn, 1) := by decide +kernel
theorem dMo_count_61 : decode bMo_count 61 = .ok (.aload_n 0, 1) := by decide +kernel
theorem dMo_count_62 : decode bMo_count 62 = .ok (.getfield 75, 3) := by decide +kernel
theorem dMo_count_65 : decode bMo_count 65 = .ok (.ireturn, 1) := by decide +kernel
theorem dMo_count_66 : decode bMo_count 66 = .ok (.aload_n 0, 1) := by decide +kernel
theorem dMo_count_67 : decode bMo_count 67 = .ok (.getfield 103, 3) := by decide +kernel
theorem dMo_count_70 : decode bMo_count 70 = .ok (.ireturn, 1) := by decide +kernel
theorem dMo_count_71 : decode bMo_count 71 = .ok (.aload_n 0, 1) := by decide +kernel
theorem dMo_count_72 : decode bMo_count 72 = .ok (.getfield 9, 3) := by decide +kernel
theorem dMo_count_75 : decode bMo_count 75 = .ok (.ireturn, 1) := by decide +kernel
theorem dMo_count_76 : decode bMo_count 76 = .ok (.aload_n 0, 1) := by decide +kernel
theorem dMo_count_77 : decode bMo_count 77 = .ok (.getfield 13, 3) := by decide +kernel
theorem dMo_count_80 : decode bMo_count 80 = .ok (.ireturn, 1) := by decide +kernel
theorem dMo_count_81 : decode bMo_count 81 = .ok (.aload_n 0, 1) := by decide +kernel
theorem dMo_count_82 : decode bMo_count 82 = .ok (.getfield 110, 3) := by decide +kernel
theorem dMo_count_85 : decode bMo_count 85 = .ok (.ireturn, 1) := by decide +kernel
theorem dMo_count_86 : decode bMo_count 86 = .ok (.aload_n 0, 1) := by decide +kernel
theorem dMo_count_87 : decode bMo_count 87 = .ok (.getfield 16, 3) := by decide +kernel
theorem dMo_count_90 : decode bMo_count 90 = .ok (.ireturn, 1) := by decide +kernel
theorem dMo_count_91 : decode bMo_count 91 = .ok (.iconst 0, 1) := by decide +kernel
theorem dMo_count_92 : decode bMo_count 92 = .ok (.ireturn, 1) := by decide +kernel
theorem dMo_count_93 : decode bMo_count 93 = .ok (.aload_n 0, 1) := by decide +kernel
theorem dMo_count_94 : decode bMo_count 94 = .ok (.getfield 116, 3) := by decide +kernel
theorem dMo_count_97 : decode bMo_count 97 = .ok (.ireturn, 1) := by decide +kernel
theorem dMo_count_98 : decode bMo_count 98 = .ok (.iconst (-1), 1) := by decide +kernel
theorem dMo_count_99 : decode bMo_count 99 = .ok (.ireturn, 1) := by decide +kernel
