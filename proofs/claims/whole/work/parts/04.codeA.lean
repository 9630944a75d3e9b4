theorem dBa_take_0 : decode bBa_take 0 = .ok (.aload_n 0, 1) := by decide +kernel
theorem dBa_take_1 : decode bBa_take 1 = .ok (.getfield 19, 3) := by decide +kernel
theorem dBa_take_4 : decode bBa_take 4 = .ok (.bipush 20, 2) := by decide +kernel
theorem dBa_take_6 : decode bBa_take 6 = .ok (.if_icmp .lt 5, 3) := by decide +kernel
theorem dBa_take_9 : decode bBa_take 9 = .ok (.iconst 0, 1) := by decide +kernel
theorem dBa_take_10 : decode bBa_take 10 = .ok (.ireturn, 1) := by decide +kernel
theorem dBa_take_11 : decode bBa_take 11 = .ok (.aload_n 0, 1) := by decide +kernel
theorem dBa_take_12 : decode bBa_take 12 = .ok (.getfield 9, 3) := by decide +kernel
theorem dBa_take_15 : decode bBa_take 15 = .ok (.aload_n 0, 1) := by decide +kernel
theorem dBa_take_16 : decode bBa_take 16 = .ok (.getfield 19, 3) := by decide +kernel
theorem dBa_take_19 : decode bBa_take 19 = .ok (.iload_n 1, 1) := by decide +kernel
theorem dBa_take_20 : decode bBa_take 20 = .ok (.iastore, 1) := by decide +kernel
theorem dBa_take_21 : decode bBa_take 21 = .ok (.aload_n 0, 1) := by decide +kernel
theorem dBa_take_22 : decode bBa_take 22 = .ok (.getfield 15, 3) := by decide +kernel
theorem dBa_take_25 : decode bBa_take 25 = .ok (.aload_n 0, 1) := by decide +kernel
theorem dBa_take_26 : decode bBa_take 26 = .ok (.getfield 19, 3) := by decide +kernel
theorem dBa_take_29 : decode bBa_take 29 = .ok (.lload_n 2, 1) := by decide +kernel
theorem dBa_take_30 : decode bBa_take 30 = .ok (.lastore, 1) := by decide +kernel
theorem dBa_take_31 : decode bBa_take 31 = .ok (.aload_n 0, 1) := by decide +kernel
theorem dBa_take_32 : decode bBa_take 32 = .ok (.dup, 1) := by decide +kernel
theorem dBa_take_33 : decode bBa_take 33 = .ok (.getfield 19, 3) := by decide +kernel
theorem dBa_take_36 : decode bBa_take 36 = .ok (.iconst 1, 1) := by decide +kernel
theorem dBa_take_37 : decode bBa_take 37 = .ok (.iadd, 1) := by decide +kernel
theorem dBa_take_38 : decode bBa_take 38 = .ok (.putfield 19, 3) := by decide +kernel
theorem dBa_take_41 : decode bBa_take 41 = .ok (.iconst 1, 1) := by decide +kernel
theorem dBa_take_42 : decode bBa_take 42 = .ok (.ireturn, 1) := by decide +kernel
theorem dBa_init_0 : decode bBa_init 0 = .ok (.aload_n 0, 1) := by decide +kernel
theorem dBa_init_1 : decode bBa_init 1 = .ok (.invokespecial 3, 3) := by decide +kernel
theorem dBa_init_4 : decode bBa_init 4 = .ok (.aload_n 0, 1) := by decide +kernel
theorem dBa_init_5 : decode bBa_init 5 = .ok (.bipush 20, 2) := by decide +kernel
theorem dBa_init_7 : decode bBa_init 7 = .ok (.newarray .int, 2) := by decide +kernel
theorem dBa_init_9 : decode bBa_init 9 = .ok (.putfield 9, 3) := by decide +kernel
theorem dBa_init_12 : decode bBa_init 12 = .ok (.aload_n 0, 1) := by decide +kernel
theorem dBa_init_13 : decode bBa_init 13 = .ok (.bipush 20, 2) := by decide +kernel
theorem dBa_init_15 : decode bBa_init 15 = .ok (.newarray .long, 2) := by decide +kernel
theorem dBa_init_17 : decode bBa_init 17 = .ok (.putfield 15, 3) := by decide +kernel
theorem dBa_init_20 : decode bBa_init 20 = .ok (.aload_n 0, 1) := by decide +kernel
theorem dBa_init_21 : decode bBa_init 21 = .ok (.iconst 0, 1) := by decide +kernel
theorem dBa_init_22 : decode bBa_init 22 = .ok (.putfield 19, 3) := by decide +kernel
theorem dBa_init_25 : decode bBa_init 25 = .ok (.aload_n 0, 1) := by decide +kernel
theorem dBa_init_26 : decode bBa_init 26 = .ok (.iconst 0, 1) := by decide +kernel
theorem dBa_init_27 : decode bBa_init 27 = .ok (.putfield 23, 3) := by decide +kernel
theorem dBa_init_30 : decode bBa_init 30 = .ok (.aload_n 0, 1) := by decide +kernel
theorem dBa_init_31 : decode bBa_init 31 = .ok (.iconst (-1), 1) := by decide +kernel
theorem dBa_init_32 : decode bBa_init 32 = .ok (.putfield 26, 3) := by decide +kernel
theorem dBa_init_35 : decode bBa_init 35 = .ok (.aload_n 0, 1) := by decide +kernel
theorem dBa_init_36 : decode bBa_init 36 = .ok (.iconst 0, 1) := by decide +kernel
theorem dBa_init_37 : decode bBa_init 37 = .ok (.putfield 29, 3) := by decide +kernel
theorem dBa_init_40 : decode bBa_init 40 = .ok (.aload_n 0, 1) := by decide +kernel
theorem dBa_init_41 : decode bBa_init 41 = .ok (.iload_n 1, 1) := by decide +kernel
theorem dBa_init_42 : decode bBa_init 42 = .ok (.putfield 33, 3) := by decide +kernel
theorem dBa_init_45 : decode bBa_init 45 = .ok (.aload_n 0, 1) := by decide +kernel
theorem dBa_init_46 : decode bBa_init 46 = .ok (.iload_n 2, 1) := by decide +kernel
theorem dBa_init_47 : decode bBa_init 47 = .ok (.putfield 36, 3) := by decide +kernel
theorem dBa_init_50 : decode bBa_init 50 = .ok (.aload_n 0, 1) := by decide +kernel
theorem dBa_init_51 : decode bBa_init 51 = .ok (.iload_n 3, 1) := by decide +kernel
theorem dBa_init_52 : decode bBa_init 52 = .ok (.putfield 39, 3) := by decide +kernel
theorem dBa_init_55 : decode bBa_init 55 = .ok (.return_, 1) := by decide +kernel
theorem dBa_sum_0 : decode bBa_sum 0 = .ok (.lconst 0, 1) := by decide +kernel
theorem dBa_sum_1 : decode bBa_sum 1 = .ok (.lstore_n 1, 1) := by decide +kernel
theorem dBa_sum_2 : decode bBa_sum 2 = .ok (.iconst 0, 1) := by decide +kernel
theorem dBa_sum_3 : decode bBa_sum 3 = .ok (.istore_n 3, 1) := by decide +kernel
theorem dBa_sum_4 : decode bBa_sum 4 = .ok (.iload_n 3, 1) := by decide +kernel
theorem dBa_sum_5 : decode bBa_sum 5 = .ok (.aload_n 0, 1) := by decide +kernel
theorem dBa_sum_6 : decode bBa_sum 6 = .ok (.getfield 19, 3) := by decide +kernel
theorem dBa_sum_9 : decode bBa_sum 9 = .ok (.if_icmp .ge 18, 3) := by decide +kernel
theorem dBa_sum_12 : decode bBa_sum 12 = .ok (.lload_n 1, 1) := by decide +kernel
theorem dBa_sum_13 : decode bBa_sum 13 = .ok (.aload_n 0, 1) := by decide +kernel
theorem dBa_sum_14 : decode bBa_sum 14 = .ok (.getfield 15, 3) := by decide +kernel
theorem dBa_sum_17 : decode bBa_sum 17 = .ok (.iload_n 3, 1) := by decide +kernel
theorem dBa_sum_18 : decode bBa_sum 18 = .ok (.laload, 1) := by decide +kernel
theorem dBa_sum_19 : decode bBa_sum 19 = .ok (.ladd, 1) := by decide +kernel
theorem dBa_sum_20 : decode bBa_sum 20 = .ok (.lstore_n 1, 1) := by decide +kernel
theorem dBa_sum_21 : decode bBa_sum 21 = .ok (.iinc 3 1, 3) := by decide +kernel
theorem dBa_sum_24 : decode bBa_sum 24 = .ok (.goto (-20), 3) := by decide +kernel
theorem dBa_sum_27 : decode bBa_sum 27 = .ok (.lload_n 1, 1) := by decide +kernel
theorem dBa_sum_28 : decode bBa_sum 28 = .ok (.lreturn, 1) := by decide +kernel
theorem dBa_sumOf_0 : decode bBa_sumOf 0 = .ok (.lconst 0, 1) := by decide +kernel
theorem dBa_sumOf_1 : decode bBa_sumOf 1 = .ok (.lstore_n 2, 1) := by decide +kernel
theorem dBa_sumOf_2 : decode bBa_sumOf 2 = .ok (.iconst 0, 1) := by decide +kernel
theorem dBa_sumOf_3 : decode bBa_sumOf 3 = .ok (.istore 4, 2) := by decide +kernel
theorem dBa_sumOf_5 : decode bBa_sumOf 5 = .ok (.iload 4, 2) := by decide +kernel
theorem dBa_sumOf_7 : decode bBa_sumOf 7 = .ok (.aload_n 0, 1) := by decide +kernel
theorem dBa_sumOf_8 : decode bBa_sumOf 8 = .ok (.getfield 19, 3) := by decide +kernel
theorem dBa_sumOf_11 : decode bBa_sumOf 11 = .ok (.if_icmp .ge 30, 3) := by decide +kernel
theorem dBa_sumOf_14 : decode bBa_sumOf 14 = .ok (.aload_n 0, 1) := by decide +kernel
theorem dBa_sumOf_15 : decode bBa_sumOf 15 = .ok (.getfield 9, 3) := by decide +kernel
theorem dBa_sumOf_18 : decode bBa_sumOf 18 = .ok (.iload 4, 2) := by decide +kernel
theorem dBa_sumOf_20 : decode bBa_sumOf 20 = .ok (.iaload, 1) := by decide +kernel
theorem dBa_sumOf_21 : decode bBa_sumOf 21 = .ok (.iload_n 1, 1) := by decide +kernel
theorem dBa_sumOf_22 : decode bBa_sumOf 22 = .ok (.if_icmp .ne 13, 3) := by decide +kernel
theorem dBa_sumOf_25 : decode bBa_sumOf 25 = .ok (.lload_n 2, 1) := by decide +kernel
theorem dBa_sumOf_26 : decode bBa_sumOf 26 = .ok (.aload_n 0, 1) := by decide +kernel
theorem dBa_sumOf_27 : decode bBa_sumOf 27 = .ok (.getfield 15, 3) := by decide +kernel
theorem dBa_sumOf_30 : decode bBa_sumOf 30 = .ok (.iload 4, 2) := by decide +kernel
theorem dBa_sumOf_32 : decode bBa_sumOf 32 = .ok (.laload, 1) := by decide +kernel
theorem dBa_sumOf_33 : decode bBa_sumOf 33 = .ok (.ladd, 1) := by decide +kernel
theorem dBa_sumOf_34 : decode bBa_sumOf 34 = .ok (.lstore_n 2, 1) := by decide +kernel
theorem dBa_sumOf_35 : decode bBa_sumOf 35 = .ok (.iinc 4 1, 3) := by decide +kernel
theorem dBa_sumOf_38 : decode bBa_sumOf 38 = .ok (.goto (-33), 3) := by decide +kernel
theorem dBa_sumOf_41 : decode bBa_sumOf 41 = .ok (.lload_n 2, 1) := by decide +kernel
theorem dBa_sumOf_42 : decode bBa_sumOf 42 = .ok (.lreturn, 1) := by decide +kernel
theorem dBk_init_0 : decode bBk_init 0 = .ok (.aload_n 0, 1) := by decide +kernel
theorem dBk_init_1 : decode bBk_init 1 = .ok (.invokespecial 3, 3) := by decide +kernel
theorem dBk_init_4 : decode bBk_init 4 = .ok (.aload_n 0, 1) := by decide +kernel
theorem dBk_init_5 : decode bBk_init 5 = .ok (.sipush 400, 3) := by decide +kernel
theorem dBk_init_8 : decode bBk_init 8 = .ok (.newarray .int, 2) := by decide +kernel
theorem dBk_init_10 : decode bBk_init 10 = .ok (.putfield 9, 3) := by decide +kernel
theorem dBk_init_13 : decode bBk_init 13 = .ok (.aload_n 0, 1) := by decide +kernel
theorem dBk_init_14 : decode bBk_init 14 = .ok (.sipush 400, 3) := by decide +kernel
theorem dBk_init_17 : decode bBk_init 17 = .ok (.newarray .int, 2) := by decide +kernel
theorem dBk_init_19 : decode bBk_init 19 = .ok (.putfield 15, 3) := by decide +kernel
theorem dBk_init_22 : decode bBk_init 22 = .ok (.aload_n 0, 1) := by decide +kernel
theorem dBk_init_23 : decode bBk_init 23 = .ok (.sipush 400, 3) := by decide +kernel
theorem dBk_init_26 : decode bBk_init 26 = .ok (.newarray .long, 2) := by decide +kernel
theorem dBk_init_28 : decode bBk_init 28 = .ok (.putfield 18, 3) := by decide +kernel
theorem dBk_init_31 : decode bBk_init 31 = .ok (.aload_n 0, 1) := by decide +kernel
theorem dBk_init_32 : decode bBk_init 32 = .ok (.sipush 400, 3) := by decide +kernel
theorem dBk_init_35 : decode bBk_init 35 = .ok (.newarray .int, 2) := by decide +kernel
theorem dBk_init_37 : decode bBk_init 37 = .ok (.putfield 22, 3) := by decide +kernel
theorem dBk_init_40 : decode bBk_init 40 = .ok (.aload_n 0, 1) := by decide +kernel
theorem dBk_init_41 : decode bBk_init 41 = .ok (.sipush 400, 3) := by decide +kernel
theorem dBk_init_44 : decode bBk_init 44 = .ok (.newarray .int, 2) := by decide +kernel
theorem dBk_init_46 : decode bBk_init 46 = .ok (.putfield 25, 3) := by decide +kernel
theorem dBk_init_49 : decode bBk_init 49 = .ok (.aload_n 0, 1) := by decide +kernel
theorem dBk_init_50 : decode bBk_init 50 = .ok (.iconst 0, 1) := by decide +kernel
theorem dBk_init_51 : decode bBk_init 51 = .ok (.putfield 28, 3) := by decide +kernel
theorem dBk_init_54 : decode bBk_init 54 = .ok (.aload_n 0, 1) := by decide +kernel
theorem dBk_init_55 : decode bBk_init 55 = .ok (.iconst 0, 1) := by decide +kernel
theorem dBk_init_56 : decode bBk_init 56 = .ok (.putfield 32, 3) := by decide +kernel
theorem dBk_init_59 : decode bBk_init 59 = .ok (.return_, 1) := by decide +kernel
theorem dBk_hasRoomFor_0 : decode bBk_hasRoomFor 0 = .ok (.iload_n 1, 1) := by decide +kernel
theorem dBk_hasRoomFor_1 : decode bBk_hasRoomFor 1 = .ok (.sipush 400, 3) := by decide +kernel
theorem dBk_hasRoomFor_4 : decode bBk_hasRoomFor 4 = .ok (.aload_n 0, 1) := by decide +kernel
theorem dBk_hasRoomFor_5 : decode bBk_hasRoomFor 5 = .ok (.getfield 28, 3) := by decide +kernel
theorem dBk_hasRoomFor_8 : decode bBk_hasRoomFor 8 = .ok (.isub, 1) := by decide +kernel
theorem dBk_hasRoomFor_9 : decode bBk_hasRoomFor 9 = .ok (.if_icmp .gt 7, 3) := by decide +kernel
theorem dBk_hasRoomFor_12 : decode bBk_hasRoomFor 12 = .ok (.iconst 1, 1) := by decide +kernel
theorem dBk_hasRoomFor_13 : decode bBk_hasRoomFor 13 = .ok (.goto 4, 3) := by decide +kernel
theorem dBk_hasRoomFor_16 : decode bBk_hasRoomFor 16 = .ok (.iconst 0, 1) := by decide +kernel
theorem dBk_hasRoomFor_17 : decode bBk_hasRoomFor 17 = .ok (.ireturn, 1) := by decide +kernel
theorem dBk_bringIn_0 : decode bBk_bringIn 0 = .ok (.iconst 0, 1) := by decide +kernel
theorem dBk_bringIn_1 : decode bBk_bringIn 1 = .ok (.istore 4, 2) := by decide +kernel
theorem dBk_bringIn_3 : decode bBk_bringIn 3 = .ok (.iload 4, 2) := by decide +kernel
theorem dBk_bringIn_5 : decode bBk_bringIn 5 = .ok (.iload_n 3, 1) := by decide +kernel
theorem dBk_bringIn_6 : decode bBk_bringIn 6 = .ok (.if_icmp .ge 97, 3) := by decide +kernel
theorem dBk_bringIn_9 : decode bBk_bringIn 9 = .ok (.aload_n 0, 1) := by decide +kernel
theorem dBk_bringIn_10 : decode bBk_bringIn 10 = .ok (.getfield 9, 3) := by decide +kernel
theorem dBk_bringIn_13 : decode bBk_bringIn 13 = .ok (.aload_n 0, 1) := by decide +kernel
theorem dBk_bringIn_14 : decode bBk_bringIn 14 = .ok (.getfield 28, 3) := by decide +kernel
theorem dBk_bringIn_17 : decode bBk_bringIn 17 = .ok (.iload_n 1, 1) := by decide +kernel
theorem dBk_bringIn_18 : decode bBk_bringIn 18 = .ok (.iastore, 1) := by decide +kernel
theorem dBk_bringIn_19 : decode bBk_bringIn 19 = .ok (.aload_n 0, 1) := by decide +kernel
theorem dBk_bringIn_20 : decode bBk_bringIn 20 = .ok (.getfield 15, 3) := by decide +kernel
theorem dBk_bringIn_23 : decode bBk_bringIn 23 = .ok (.aload_n 0, 1) := by decide +kernel
theorem dBk_bringIn_24 : decode bBk_bringIn 24 = .ok (.getfield 28, 3) := by decide +kernel
theorem dBk_bringIn_27 : decode bBk_bringIn 27 = .ok (.aload_n 2, 1) := by decide +kernel
theorem dBk_bringIn_28 : decode bBk_bringIn 28 = .ok (.getfield 35, 3) := by decide +kernel
theorem dBk_bringIn_31 : decode bBk_bringIn 31 = .ok (.iload 4, 2) := by decide +kernel
theorem dBk_bringIn_33 : decode bBk_bringIn 33 = .ok (.iaload, 1) := by decide +kernel
theorem dBk_bringIn_34 : decode bBk_bringIn 34 = .ok (.iastore, 1) := by decide +kernel
theorem dBk_bringIn_35 : decode bBk_bringIn 35 = .ok (.aload_n 0, 1) := by decide +kernel
theorem dBk_bringIn_36 : decode bBk_bringIn 36 = .ok (.getfield 18, 3) := by decide +kernel
theorem dBk_bringIn_39 : decode bBk_bringIn 39 = .ok (.aload_n 0, 1) := by decide +kernel
theorem dBk_bringIn_40 : decode bBk_bringIn 40 = .ok (.getfield 28, 3) := by decide +kernel
theorem dBk_bringIn_43 : decode bBk_bringIn 43 = .ok (.aload_n 2, 1) := by decide +kernel
theorem dBk_bringIn_44 : decode bBk_bringIn 44 = .ok (.getfield 38, 3) := by decide +kernel
theorem dBk_bringIn_47 : decode bBk_bringIn 47 = .ok (.iload 4, 2) := by decide +kernel
theorem dBk_bringIn_49 : decode bBk_bringIn 49 = .ok (.laload, 1) := by decide +kernel
theorem dBk_bringIn_50 : decode bBk_bringIn 50 = .ok (.lastore, 1) := by decide +kernel
theorem dBk_bringIn_51 : decode bBk_bringIn 51 = .ok (.aload_n 0, 1) := by decide +kernel
theorem dBk_bringIn_52 : decode bBk_bringIn 52 = .ok (.getfield 22, 3) := by decide +kernel
theorem dBk_bringIn_55 : decode bBk_bringIn 55 = .ok (.aload_n 0, 1) := by decide +kernel
theorem dBk_bringIn_56 : decode bBk_bringIn 56 = .ok (.getfield 28, 3) := by decide +kernel
theorem dBk_bringIn_59 : decode bBk_bringIn 59 = .ok (.aload_n 2, 1) := by decide +kernel
theorem dBk_bringIn_60 : decode bBk_bringIn 60 = .ok (.getfield 39, 3) := by decide +kernel
theorem dBk_bringIn_63 : decode bBk_bringIn 63 = .ok (.iastore, 1) := by decide +kernel
theorem dBk_bringIn_64 : decode bBk_bringIn 64 = .ok (.aload_n 0, 1) := by decide +kernel
theorem dBk_bringIn_65 : decode bBk_bringIn 65 = .ok (.getfield 25, 3) := by decide +kernel
theorem dBk_bringIn_68 : decode bBk_bringIn 68 = .ok (.aload_n 0, 1) := by decide +kernel
theorem dBk_bringIn_69 : decode bBk_bringIn 69 = .ok (.getfield 28, 3) := by decide +kernel
theorem dBk_bringIn_72 : decode bBk_bringIn 72 = .ok (.aload_n 2, 1) := by decide +kernel
theorem dBk_bringIn_73 : decode bBk_bringIn 73 = .ok (.getfield 42, 3) := by decide +kernel
theorem dBk_bringIn_76 : decode bBk_bringIn 76 = .ok (.iastore, 1) := by decide +kernel
theorem dBk_bringIn_77 : decode bBk_bringIn 77 = .ok (.aload_n 0, 1) := by decide +kernel
theorem dBk_bringIn_78 : decode bBk_bringIn 78 = .ok (.dup, 1) := by decide +kernel
theorem dBk_bringIn_79 : decode bBk_bringIn 79 = .ok (.getfield 28, 3) := by decide +kernel
theorem dBk_bringIn_82 : decode bBk_bringIn 82 = .ok (.iconst 1, 1) := by decide +kernel
theorem dBk_bringIn_83 : decode bBk_bringIn 83 = .ok (.iadd, 1) := by decide +kernel
theorem dBk_bringIn_84 : decode bBk_bringIn 84 = .ok (.putfield 28, 3) := by decide +kernel
theorem dBk_bringIn_87 : decode bBk_bringIn 87 = .ok (.aload_n 0, 1) := by decide +kernel
theorem dBk_bringIn_88 : decode bBk_bringIn 88 = .ok (.dup, 1) := by decide +kernel
theorem dBk_bringIn_89 : decode bBk_bringIn 89 = .ok (.getfield 32, 3) := by decide +kernel
theorem dBk_bringIn_92 : decode bBk_bringIn 92 = .ok (.iconst 1, 1) := by decide +kernel
theorem dBk_bringIn_93 : decode bBk_bringIn 93 = .ok (.iadd, 1) := by decide +kernel
theorem dBk_bringIn_94 : decode bBk_bringIn 94 = .ok (.putfield 32, 3) := by decide +kernel
theorem dBk_bringIn_97 : decode bBk_bringIn 97 = .ok (.iinc 4 1, 3) := by decide +kernel
theorem dBk_bringIn_100 : decode bBk_bringIn 100 = .ok (.goto (-97), 3) := by decide +kernel
theorem dBk_bringIn_103 : decode bBk_bringIn 103 = .ok (.return_, 1) := by decide +kernel
theorem dBk_takeHeldOut_0 : decode bBk_takeHeldOut 0 = .ok (.aload_n 0, 1) := by decide +kernel
theorem dBk_takeHeldOut_1 : decode bBk_takeHeldOut 1 = .ok (.dup, 1) := by decide +kernel
theorem dBk_takeHeldOut_2 : decode bBk_takeHeldOut 2 = .ok (.getfield 28, 3) := by decide +kernel
theorem dBk_takeHeldOut_5 : decode bBk_takeHeldOut 5 = .ok (.aload_n 0, 1) := by decide +kernel
theorem dBk_takeHeldOut_6 : decode bBk_takeHeldOut 6 = .ok (.getfield 32, 3) := by decide +kernel
theorem dBk_takeHeldOut_9 : decode bBk_takeHeldOut 9 = .ok (.isub, 1) := by decide +kernel
theorem dBk_takeHeldOut_10 : decode bBk_takeHeldOut 10 = .ok (.putfield 28, 3) := by decide +kernel
theorem dBk_takeHeldOut_13 : decode bBk_takeHeldOut 13 = .ok (.aload_n 0, 1) := by decide +kernel
theorem dBk_takeHeldOut_14 : decode bBk_takeHeldOut 14 = .ok (.iconst 0, 1) := by decide +kernel
theorem dBk_takeHeldOut_15 : decode bBk_takeHeldOut 15 = .ok (.putfield 32, 3) := by decide +kernel
theorem dBk_takeHeldOut_18 : decode bBk_takeHeldOut 18 = .ok (.return_, 1) := by decide +kernel
theorem dBk_settleHeld_0 : decode bBk_settleHeld 0 = .ok (.aload_n 0, 1) := by decide +kernel
theorem dBk_settleHeld_1 : decode bBk_settleHeld 1 = .ok (.iconst 0, 1) := by decide +kernel
theorem dBk_settleHeld_2 : decode bBk_settleHeld 2 = .ok (.putfield 32, 3) := by decide +kernel
theorem dBk_settleHeld_5 : decode bBk_settleHeld 5 = .ok (.return_, 1) := by decide +kernel
theorem dBk_sum_0 : decode bBk_sum 0 = .ok (.lconst 0, 1) := by decide +kernel
theorem dBk_sum_1 : decode bBk_sum 1 = .ok (.lstore 5, 2) := by decide +kernel
theorem dBk_sum_3 : decode bBk_sum 3 = .ok (.iconst 0, 1) := by decide +kernel
theorem dBk_sum_4 : decode bBk_sum 4 = .ok (.istore 7, 2) := by decide +kernel
theorem dBk_sum_6 : decode bBk_sum 6 = .ok (.iload 7, 2) := by decide +kernel
theorem dBk_sum_8 : decode bBk_sum 8 = .ok (.aload_n 0, 1) := by decide +kernel
theorem dBk_sum_9 : decode bBk_sum 9 = .ok (.getfield 28, 3) := by decide +kernel
theorem dBk_sum_12 : decode bBk_sum 12 = .ok (.if_icmp .ge 66, 3) := by decide +kernel
theorem dBk_sum_15 : decode bBk_sum 15 = .ok (.aload_n 0, 1) := by decide +kernel
theorem dBk_sum_16 : decode bBk_sum 16 = .ok (.getfield 15, 3) := by decide +kernel
theorem dBk_sum_19 : decode bBk_sum 19 = .ok (.iload 7, 2) := by decide +kernel
theorem dBk_sum_21 : decode bBk_sum 21 = .ok (.iaload, 1) := by decide +kernel
theorem dBk_sum_22 : decode bBk_sum 22 = .ok (.iload_n 1, 1) := by decide +kernel
theorem dBk_sum_23 : decode bBk_sum 23 = .ok (.if_icmp .ne 49, 3) := by decide +kernel
theorem dBk_sum_26 : decode bBk_sum 26 = .ok (.aload_n 0, 1) := by decide +kernel
theorem dBk_sum_27 : decode bBk_sum 27 = .ok (.getfield 22, 3) := by decide +kernel
theorem dBk_sum_30 : decode bBk_sum 30 = .ok (.iload 7, 2) := by decide +kernel
theorem dBk_sum_32 : decode bBk_sum 32 = .ok (.iaload, 1) := by decide +kernel
theorem dBk_sum_33 : decode bBk_sum 33 = .ok (.iload_n 2, 1) := by decide +kernel
theorem dBk_sum_34 : decode bBk_sum 34 = .ok (.if_icmp .lt 38, 3) := by decide +kernel
theorem dBk_sum_37 : decode bBk_sum 37 = .ok (.aload_n 0, 1) := by decide +kernel
theorem dBk_sum_38 : decode bBk_sum 38 = .ok (.getfield 22, 3) := by decide +kernel
theorem dBk_sum_41 : decode bBk_sum 41 = .ok (.iload 7, 2) := by decide +kernel
theorem dBk_sum_43 : decode bBk_sum 43 = .ok (.iaload, 1) := by decide +kernel
theorem dBk_sum_44 : decode bBk_sum 44 = .ok (.iload_n 3, 1) := by decide +kernel
theorem dBk_sum_45 : decode bBk_sum 45 = .ok (.if_icmp .gt 27, 3) := by decide +kernel
theorem dBk_sum_48 : decode bBk_sum 48 = .ok (.aload_n 0, 1) := by decide +kernel
theorem dBk_sum_49 : decode bBk_sum 49 = .ok (.getfield 25, 3) := by decide +kernel
theorem dBk_sum_52 : decode bBk_sum 52 = .ok (.iload 7, 2) := by decide +kernel
theorem dBk_sum_54 : decode bBk_sum 54 = .ok (.iaload, 1) := by decide +kernel
theorem dBk_sum_55 : decode bBk_sum 55 = .ok (.iload 4, 2) := by decide +kernel
theorem dBk_sum_57 : decode bBk_sum 57 = .ok (.if_icmp .gt 15, 3) := by decide +kernel
theorem dBk_sum_60 : decode bBk_sum 60 = .ok (.lload 5, 2) := by decide +kernel
theorem dBk_sum_62 : decode bBk_sum 62 = .ok (.aload_n 0, 1) := by decide +kernel
theorem dBk_sum_63 : decode bBk_sum 63 = .ok (.getfield 18, 3) := by decide +kernel
theorem dBk_sum_66 : decode bBk_sum 66 = .ok (.iload 7, 2) := by decide +kernel
theorem dBk_sum_68 : decode bBk_sum 68 = .ok (.laload, 1) := by decide +kernel
theorem dBk_sum_69 : decode bBk_sum 69 = .ok (.ladd, 1) := by decide +kernel
theorem dBk_sum_70 : decode bBk_sum 70 = .ok (.lstore 5, 2) := by decide +kernel
theorem dBk_sum_72 : decode bBk_sum 72 = .ok (.iinc 7 1, 3) := by decide +kernel
theorem dBk_sum_75 : decode bBk_sum 75 = .ok (.goto (-69), 3) := by decide +kernel
theorem dBk_sum_78 : decode bBk_sum 78 = .ok (.lload 5, 2) := by decide +kernel
theorem dBk_sum_80 : decode bBk_sum 80 = .ok (.lreturn, 1) := by decide +kernel
theorem dSh_init_0 : decode bSh_init 0 = .ok (.aload_n 0, 1) := by decide +kernel
theorem dSh_init_1 : decode bSh_init 1 = .ok (.invokespecial 3, 3) := by decide +kernel
theorem dSh_init_4 : decode bSh_init 4 = .ok (.aload_n 0, 1) := by decide +kernel
theorem dSh_init_5 : decode bSh_init 5 = .ok (.bipush 24, 2) := by decide +kernel
theorem dSh_init_7 : decode bSh_init 7 = .ok (.newarray .int, 2) := by decide +kernel
theorem dSh_init_9 : decode bSh_init 9 = .ok (.putfield 9, 3) := by decide +kernel
theorem dSh_init_12 : decode bSh_init 12 = .ok (.aload_n 0, 1) := by decide +kernel
theorem dSh_init_13 : decode bSh_init 13 = .ok (.bipush 6, 2) := by decide +kernel
theorem dSh_init_15 : decode bSh_init 15 = .ok (.newarray .int, 2) := by decide +kernel
theorem dSh_init_17 : decode bSh_init 17 = .ok (.putfield 15, 3) := by decide +kernel
theorem dSh_init_20 : decode bSh_init 20 = .ok (.return_, 1) := by decide +kernel
theorem dSh_setPart_0 : decode bSh_setPart 0 = .ok (.aload_n 0, 1) := by decide +kernel
theorem dSh_setPart_1 : decode bSh_setPart 1 = .ok (.getfield 9, 3) := by decide +kernel
theorem dSh_setPart_4 : decode bSh_setPart 4 = .ok (.iload_n 1, 1) := by decide +kernel
theorem dSh_setPart_5 : decode bSh_setPart 5 = .ok (.iconst 4, 1) := by decide +kernel
theorem dSh_setPart_6 : decode bSh_setPart 6 = .ok (.imul, 1) := by decide +kernel
theorem dSh_setPart_7 : decode bSh_setPart 7 = .ok (.iload_n 2, 1) := by decide +kernel
theorem dSh_setPart_8 : decode bSh_setPart 8 = .ok (.iadd, 1) := by decide +kernel
theorem dSh_setPart_9 : decode bSh_setPart 9 = .ok (.iload_n 3, 1) := by decide +kernel
theorem dSh_setPart_10 : decode bSh_setPart 10 = .ok (.iastore, 1) := by decide +kernel
theorem dSh_setPart_11 : decode bSh_setPart 11 = .ok (.return_, 1) := by decide +kernel
theorem dSh_setCost_0 : decode bSh_setCost 0 = .ok (.aload_n 0, 1) := by decide +kernel
theorem dSh_setCost_1 : decode bSh_setCost 1 = .ok (.getfield 15, 3) := by decide +kernel
theorem dSh_setCost_4 : decode bSh_setCost 4 = .ok (.iload_n 1, 1) := by decide +kernel
theorem dSh_setCost_5 : decode bSh_setCost 5 = .ok (.iload_n 2, 1) := by decide +kernel
theorem dSh_setCost_6 : decode bSh_setCost 6 = .ok (.iastore, 1) := by decide +kernel
theorem dSh_setCost_7 : decode bSh_setCost 7 = .ok (.return_, 1) := by decide +kernel
theorem dSh_costOf_0 : decode bSh_costOf 0 = .ok (.lload_n 2, 1) := by decide +kernel
theorem dSh_costOf_1 : decode bSh_costOf 1 = .ok (.aload_n 0, 1) := by decide +kernel
theorem dSh_costOf_2 : decode bSh_costOf 2 = .ok (.getfield 15, 3) := by decide +kernel
theorem dSh_costOf_5 : decode bSh_costOf 5 = .ok (.iload_n 1, 1) := by decide +kernel
theorem dSh_costOf_6 : decode bSh_costOf 6 = .ok (.iaload, 1) := by decide +kernel
theorem dSh_costOf_7 : decode bSh_costOf 7 = .ok (.i2l, 1) := by decide +kernel
theorem dSh_costOf_8 : decode bSh_costOf 8 = .ok (.lmul, 1) := by decide +kernel
theorem dSh_costOf_9 : decode bSh_costOf 9 = .ok (.ldc2_w 18, 3) := by decide +kernel
theorem dSh_costOf_12 : decode bSh_costOf 12 = .ok (.ldiv, 1) := by decide +kernel
theorem dSh_costOf_13 : decode bSh_costOf 13 = .ok (.lreturn, 1) := by decide +kernel
theorem dSh_allShares_0 : decode bSh_allShares 0 = .ok (.lconst 0, 1) := by decide +kernel
theorem dSh_allShares_1 : decode bSh_allShares 1 = .ok (.lstore 4, 2) := by decide +kernel
theorem dSh_allShares_3 : decode bSh_allShares 3 = .ok (.iconst 0, 1) := by decide +kernel
theorem dSh_allShares_4 : decode bSh_allShares 4 = .ok (.istore 6, 2) := by decide +kernel
theorem dSh_allShares_6 : decode bSh_allShares 6 = .ok (.iload 6, 2) := by decide +kernel
theorem dSh_allShares_8 : decode bSh_allShares 8 = .ok (.iconst 4, 1) := by decide +kernel
theorem dSh_allShares_9 : decode bSh_allShares 9 = .ok (.if_icmp .ge 22, 3) := by decide +kernel
theorem dSh_allShares_12 : decode bSh_allShares 12 = .ok (.lload 4, 2) := by decide +kernel
theorem dSh_allShares_14 : decode bSh_allShares 14 = .ok (.aload_n 0, 1) := by decide +kernel
theorem dSh_allShares_15 : decode bSh_allShares 15 = .ok (.iload_n 1, 1) := by decide +kernel
theorem dSh_allShares_16 : decode bSh_allShares 16 = .ok (.iload 6, 2) := by decide +kernel
theorem dSh_allShares_18 : decode bSh_allShares 18 = .ok (.lload_n 2, 1) := by decide +kernel
theorem dSh_allShares_19 : decode bSh_allShares 19 = .ok (.invokevirtual 20, 3) := by decide +kernel
theorem dSh_allShares_22 : decode bSh_allShares 22 = .ok (.ladd, 1) := by decide +kernel
theorem dSh_allShares_23 : decode bSh_allShares 23 = .ok (.lstore 4, 2) := by decide +kernel
theorem dSh_allShares_25 : decode bSh_allShares 25 = .ok (.iinc 6 1, 3) := by decide +kernel
theorem dSh_allShares_28 : decode bSh_allShares 28 = .ok (.goto (-22), 3) := by decide +kernel
theorem dSh_allShares_31 : decode bSh_allShares 31 = .ok (.lload 4, 2) := by decide +kernel
theorem dSh_allShares_33 : decode bSh_allShares 33 = .ok (.lreturn, 1) := by decide +kernel
theorem dSh_shareOf_0 : decode bSh_shareOf 0 = .ok (.aload_n 0, 1) := by decide +kernel
theorem dSh_shareOf_1 : decode bSh_shareOf 1 = .ok (.iload_n 1, 1) := by decide +kernel
theorem dSh_shareOf_2 : decode bSh_shareOf 2 = .ok (.invokevirtual 24, 3) := by decide +kernel
theorem dSh_shareOf_5 : decode bSh_shareOf 5 = .ok (.ifCond .ne 5, 3) := by decide +kernel
theorem dSh_shareOf_8 : decode bSh_shareOf 8 = .ok (.lconst 0, 1) := by decide +kernel
theorem dSh_shareOf_9 : decode bSh_shareOf 9 = .ok (.lreturn, 1) := by decide +kernel
theorem dSh_shareOf_10 : decode bSh_shareOf 10 = .ok (.aload_n 0, 1) := by decide +kernel
theorem dSh_shareOf_11 : decode bSh_shareOf 11 = .ok (.iload_n 1, 1) := by decide +kernel
theorem dSh_shareOf_12 : decode bSh_shareOf 12 = .ok (.iload_n 2, 1) := by decide +kernel
theorem dSh_shareOf_13 : decode bSh_shareOf 13 = .ok (.lload_n 3, 1) := by decide +kernel
theorem dSh_shareOf_14 : decode bSh_shareOf 14 = .ok (.invokevirtual 28, 3) := by decide +kernel
theorem dSh_shareOf_17 : decode bSh_shareOf 17 = .ok (.lstore 5, 2) := by decide +kernel
theorem dSh_shareOf_19 : decode bSh_shareOf 19 = .ok (.aload_n 0, 1) := by decide +kernel
theorem dSh_shareOf_20 : decode bSh_shareOf 20 = .ok (.iload_n 1, 1) := by decide +kernel
theorem dSh_shareOf_21 : decode bSh_shareOf 21 = .ok (.iload_n 2, 1) := by decide +kernel
theorem dSh_shareOf_22 : decode bSh_shareOf 22 = .ok (.lload_n 3, 1) := by decide +kernel
theorem dSh_shareOf_23 : decode bSh_shareOf 23 = .ok (.invokevirtual 31, 3) := by decide +kernel
theorem dSh_shareOf_26 : decode bSh_shareOf 26 = .ok (.i2l, 1) := by decide +kernel
theorem dSh_shareOf_27 : decode bSh_shareOf 27 = .ok (.aload_n 0, 1) := by decide +kernel
theorem dSh_shareOf_28 : decode bSh_shareOf 28 = .ok (.iload_n 1, 1) := by decide +kernel
theorem dSh_shareOf_29 : decode bSh_shareOf 29 = .ok (.lload_n 3, 1) := by decide +kernel
theorem dSh_shareOf_30 : decode bSh_shareOf 30 = .ok (.invokevirtual 35, 3) := by decide +kernel
theorem dSh_shareOf_33 : decode bSh_shareOf 33 = .ok (.lcmp, 1) := by decide +kernel
theorem dSh_shareOf_34 : decode bSh_shareOf 34 = .ok (.ifCond .ge 10, 3) := by decide +kernel
theorem dSh_shareOf_37 : decode bSh_shareOf 37 = .ok (.lload 5, 2) := by decide +kernel
theorem dSh_shareOf_39 : decode bSh_shareOf 39 = .ok (.lconst 1, 1) := by decide +kernel
theorem dSh_shareOf_40 : decode bSh_shareOf 40 = .ok (.ladd, 1) := by decide +kernel
theorem dSh_shareOf_41 : decode bSh_shareOf 41 = .ok (.goto 5, 3) := by decide +kernel
theorem dSh_shareOf_44 : decode bSh_shareOf 44 = .ok (.lload 5, 2) := by decide +kernel
theorem dSh_shareOf_46 : decode bSh_shareOf 46 = .ok (.lreturn, 1) := by decide +kernel
theorem dSh_allParts_0 : decode bSh_allParts 0 = .ok (.iconst 0, 1) := by decide +kernel
theorem dSh_allParts_1 : decode bSh_allParts 1 = .ok (.istore_n 2, 1) := by decide +kernel
theorem dSh_allParts_2 : decode bSh_allParts 2 = .ok (.iconst 0, 1) := by decide +kernel
theorem dSh_allParts_3 : decode bSh_allParts 3 = .ok (.istore_n 3, 1) := by decide +kernel
theorem dSh_allParts_4 : decode bSh_allParts 4 = .ok (.iload_n 3, 1) := by decide +kernel
theorem dSh_allParts_5 : decode bSh_allParts 5 = .ok (.iconst 4, 1) := by decide +kernel
theorem dSh_allParts_6 : decode bSh_allParts 6 = .ok (.if_icmp .ge 22, 3) := by decide +kernel
theorem dSh_allParts_9 : decode bSh_allParts 9 = .ok (.iload_n 2, 1) := by decide +kernel
theorem dSh_allParts_10 : decode bSh_allParts 10 = .ok (.aload_n 0, 1) := by decide +kernel
theorem dSh_allParts_11 : decode bSh_allParts 11 = .ok (.getfield 9, 3) := by decide +kernel
theorem dSh_allParts_14 : decode bSh_allParts 14 = .ok (.iload_n 1, 1) := by decide +kernel
theorem dSh_allParts_15 : decode bSh_allParts 15 = .ok (.iconst 4, 1) := by decide +kernel
theorem dSh_allParts_16 : decode bSh_allParts 16 = .ok (.imul, 1) := by decide +kernel
theorem dSh_allParts_17 : decode bSh_allParts 17 = .ok (.iload_n 3, 1) := by decide +kernel
theorem dSh_allParts_18 : decode bSh_allParts 18 = .ok (.iadd, 1) := by decide +kernel
theorem dSh_allParts_19 : decode bSh_allParts 19 = .ok (.iaload, 1) := by decide +kernel
theorem dSh_allParts_20 : decode bSh_allParts 20 = .ok (.iadd, 1) := by decide +kernel
theorem dSh_allParts_21 : decode bSh_allParts 21 = .ok (.istore_n 2, 1) := by decide +kernel
theorem dSh_allParts_22 : decode bSh_allParts 22 = .ok (.iinc 3 1, 3) := by decide +kernel
theorem dSh_allParts_25 : decode bSh_allParts 25 = .ok (.goto (-21), 3) := by decide +kernel
theorem dSh_allParts_28 : decode bSh_allParts 28 = .ok (.iload_n 2, 1) := by decide +kernel
theorem dSh_allParts_29 : decode bSh_allParts 29 = .ok (.ireturn, 1) := by decide +kernel
theorem dSh_wholeShare_0 : decode bSh_wholeShare 0 = .ok (.aload_n 0, 1) := by decide +kernel
theorem dSh_wholeShare_1 : decode bSh_wholeShare 1 = .ok (.iload_n 1, 1) := by decide +kernel
theorem dSh_wholeShare_2 : decode bSh_wholeShare 2 = .ok (.invokevirtual 24, 3) := by decide +kernel
theorem dSh_wholeShare_5 : decode bSh_wholeShare 5 = .ok (.istore 5, 2) := by decide +kernel
theorem dSh_wholeShare_7 : decode bSh_wholeShare 7 = .ok (.iload 5, 2) := by decide +kernel
theorem dSh_wholeShare_9 : decode bSh_wholeShare 9 = .ok (.ifCond .ne 7, 3) := by decide +kernel
theorem dSh_wholeShare_12 : decode bSh_wholeShare 12 = .ok (.lconst 0, 1) := by decide +kernel
theorem dSh_wholeShare_13 : decode bSh_wholeShare 13 = .ok (.goto 20, 3) := by decide +kernel
theorem dSh_wholeShare_16 : decode bSh_wholeShare 16 = .ok (.lload_n 3, 1) := by decide +kernel
theorem dSh_wholeShare_17 : decode bSh_wholeShare 17 = .ok (.aload_n 0, 1) := by decide +kernel
theorem dSh_wholeShare_18 : decode bSh_wholeShare 18 = .ok (.getfield 9, 3) := by decide +kernel
theorem dSh_wholeShare_21 : decode bSh_wholeShare 21 = .ok (.iload_n 1, 1) := by decide +kernel
theorem dSh_wholeShare_22 : decode bSh_wholeShare 22 = .ok (.iconst 4, 1) := by decide +kernel
theorem dSh_wholeShare_23 : decode bSh_wholeShare 23 = .ok (.imul, 1) := by decide +kernel
theorem dSh_wholeShare_24 : decode bSh_wholeShare 24 = .ok (.iload_n 2, 1) := by decide +kernel
theorem dSh_wholeShare_25 : decode bSh_wholeShare 25 = .ok (.iadd, 1) := by decide +kernel
theorem dSh_wholeShare_26 : decode bSh_wholeShare 26 = .ok (.iaload, 1) := by decide +kernel
theorem dSh_wholeShare_27 : decode bSh_wholeShare 27 = .ok (.i2l, 1) := by decide +kernel
theorem dSh_wholeShare_28 : decode bSh_wholeShare 28 = .ok (.lmul, 1) := by decide +kernel
theorem dSh_wholeShare_29 : decode bSh_wholeShare 29 = .ok (.iload 5, 2) := by decide +kernel
theorem dSh_wholeShare_31 : decode bSh_wholeShare 31 = .ok (.i2l, 1) := by decide +kernel
theorem dSh_wholeShare_32 : decode bSh_wholeShare 32 = .ok (.ldiv, 1) := by decide +kernel
theorem dSh_wholeShare_33 : decode bSh_wholeShare 33 = .ok (.lreturn, 1) := by decide +kernel
theorem dSh_placeByRemainder_0 : decode bSh_placeByRemainder 0 = .ok (.aload_n 0, 1) := by decide +kernel
theorem dSh_placeByRemainder_1 : decode bSh_placeByRemainder 1 = .ok (.iload_n 1, 1) := by decide +kernel
theorem dSh_placeByRemainder_2 : decode bSh_placeByRemainder 2 = .ok (.iload_n 2, 1) := by decide +kernel
theorem dSh_placeByRemainder_3 : decode bSh_placeByRemainder 3 = .ok (.lload_n 3, 1) := by decide +kernel
theorem dSh_placeByRemainder_4 : decode bSh_placeByRemainder 4 = .ok (.invokevirtual 39, 3) := by decide +kernel
theorem dSh_placeByRemainder_7 : decode bSh_placeByRemainder 7 = .ok (.lstore 5, 2) := by decide +kernel
theorem dSh_placeByRemainder_9 : decode bSh_placeByRemainder 9 = .ok (.iconst 0, 1) := by decide +kernel
theorem dSh_placeByRemainder_10 : decode bSh_placeByRemainder 10 = .ok (.istore 7, 2) := by decide +kernel
theorem dSh_placeByRemainder_12 : decode bSh_placeByRemainder 12 = .ok (.iconst 0, 1) := by decide +kernel
theorem dSh_placeByRemainder_13 : decode bSh_placeByRemainder 13 = .ok (.istore 8, 2) := by decide +kernel
theorem dSh_placeByRemainder_15 : decode bSh_placeByRemainder 15 = .ok (.iload 8, 2) := by decide +kernel
theorem dSh_placeByRemainder_17 : decode bSh_placeByRemainder 17 = .ok (.iconst 4, 1) := by decide +kernel
theorem dSh_placeByRemainder_18 : decode bSh_placeByRemainder 18 = .ok (.if_icmp .ge 44, 3) := by decide +kernel
theorem dSh_placeByRemainder_21 : decode bSh_placeByRemainder 21 = .ok (.aload_n 0, 1) := by decide +kernel
theorem dSh_placeByRemainder_22 : decode bSh_placeByRemainder 22 = .ok (.iload_n 1, 1) := by decide +kernel
theorem dSh_placeByRemainder_23 : decode bSh_placeByRemainder 23 = .ok (.iload 8, 2) := by decide +kernel
theorem dSh_placeByRemainder_25 : decode bSh_placeByRemainder 25 = .ok (.lload_n 3, 1) := by decide +kernel
theorem dSh_placeByRemainder_26 : decode bSh_placeByRemainder 26 = .ok (.invokevirtual 39, 3) := by decide +kernel
theorem dSh_placeByRemainder_29 : decode bSh_placeByRemainder 29 = .ok (.lstore 9, 2) := by decide +kernel
theorem dSh_placeByRemainder_31 : decode bSh_placeByRemainder 31 = .ok (.lload 9, 2) := by decide +kernel
theorem dSh_placeByRemainder_33 : decode bSh_placeByRemainder 33 = .ok (.lload 5, 2) := by decide +kernel
theorem dSh_placeByRemainder_35 : decode bSh_placeByRemainder 35 = .ok (.lcmp, 1) := by decide +kernel
theorem dSh_placeByRemainder_36 : decode bSh_placeByRemainder 36 = .ok (.ifCond .gt 17, 3) := by decide +kernel
theorem dSh_placeByRemainder_39 : decode bSh_placeByRemainder 39 = .ok (.lload 9, 2) := by decide +kernel
theorem dSh_placeByRemainder_41 : decode bSh_placeByRemainder 41 = .ok (.lload 5, 2) := by decide +kernel
theorem dSh_placeByRemainder_43 : decode bSh_placeByRemainder 43 = .ok (.lcmp, 1) := by decide +kernel
theorem dSh_placeByRemainder_44 : decode bSh_placeByRemainder 44 = .ok (.ifCond .ne 12, 3) := by decide +kernel
theorem dSh_placeByRemainder_47 : decode bSh_placeByRemainder 47 = .ok (.iload 8, 2) := by decide +kernel
theorem dSh_placeByRemainder_49 : decode bSh_placeByRemainder 49 = .ok (.iload_n 2, 1) := by decide +kernel
theorem dSh_placeByRemainder_50 : decode bSh_placeByRemainder 50 = .ok (.if_icmp .ge 6, 3) := by decide +kernel
theorem dSh_placeByRemainder_53 : decode bSh_placeByRemainder 53 = .ok (.iinc 7 1, 3) := by decide +kernel
theorem dSh_placeByRemainder_56 : decode bSh_placeByRemainder 56 = .ok (.iinc 8 1, 3) := by decide +kernel
theorem dSh_placeByRemainder_59 : decode bSh_placeByRemainder 59 = .ok (.goto (-44), 3) := by decide +kernel
theorem dSh_placeByRemainder_62 : decode bSh_placeByRemainder 62 = .ok (.iload 7, 2) := by decide +kernel
theorem dSh_placeByRemainder_64 : decode bSh_placeByRemainder 64 = .ok (.ireturn, 1) := by decide +kernel
theorem dSh_remainder_0 : decode bSh_remainder 0 = .ok (.aload_n 0, 1) := by decide +kernel
theorem dSh_remainder_1 : decode bSh_remainder 1 = .ok (.iload_n 1, 1) := by decide +kernel
theorem dSh_remainder_2 : decode bSh_remainder 2 = .ok (.invokevirtual 24, 3) := by decide +kernel
theorem dSh_remainder_5 : decode bSh_remainder 5 = .ok (.istore 5, 2) := by decide +kernel
theorem dSh_remainder_7 : decode bSh_remainder 7 = .ok (.iload 5, 2) := by decide +kernel
theorem dSh_remainder_9 : decode bSh_remainder 9 = .ok (.ifCond .ne 7, 3) := by decide +kernel
theorem dSh_remainder_12 : decode bSh_remainder 12 = .ok (.lconst 0, 1) := by decide +kernel
theorem dSh_remainder_13 : decode bSh_remainder 13 = .ok (.goto 20, 3) := by decide +kernel
theorem dSh_remainder_16 : decode bSh_remainder 16 = .ok (.lload_n 3, 1) := by decide +kernel
theorem dSh_remainder_17 : decode bSh_remainder 17 = .ok (.aload_n 0, 1) := by decide +kernel
theorem dSh_remainder_18 : decode bSh_remainder 18 = .ok (.getfield 9, 3) := by decide +kernel
theorem dSh_remainder_21 : decode bSh_remainder 21 = .ok (.iload_n 1, 1) := by decide +kernel
theorem dSh_remainder_22 : decode bSh_remainder 22 = .ok (.iconst 4, 1) := by decide +kernel
theorem dSh_remainder_23 : decode bSh_remainder 23 = .ok (.imul, 1) := by decide +kernel
theorem dSh_remainder_24 : decode bSh_remainder 24 = .ok (.iload_n 2, 1) := by decide +kernel
theorem dSh_remainder_25 : decode bSh_remainder 25 = .ok (.iadd, 1) := by decide +kernel
theorem dSh_remainder_26 : decode bSh_remainder 26 = .ok (.iaload, 1) := by decide +kernel
theorem dSh_remainder_27 : decode bSh_remainder 27 = .ok (.i2l, 1) := by decide +kernel
theorem dSh_remainder_28 : decode bSh_remainder 28 = .ok (.lmul, 1) := by decide +kernel
theorem dSh_remainder_29 : decode bSh_remainder 29 = .ok (.iload 5, 2) := by decide +kernel
theorem dSh_remainder_31 : decode bSh_remainder 31 = .ok (.i2l, 1) := by decide +kernel
theorem dSh_remainder_32 : decode bSh_remainder 32 = .ok (.lrem, 1) := by decide +kernel
theorem dSh_remainder_33 : decode bSh_remainder 33 = .ok (.lreturn, 1) := by decide +kernel
theorem dSh_centsLeft_0 : decode bSh_centsLeft 0 = .ok (.lload_n 2, 1) := by decide +kernel
theorem dSh_centsLeft_1 : decode bSh_centsLeft 1 = .ok (.lstore 4, 2) := by decide +kernel
theorem dSh_centsLeft_3 : decode bSh_centsLeft 3 = .ok (.iconst 0, 1) := by decide +kernel
theorem dSh_centsLeft_4 : decode bSh_centsLeft 4 = .ok (.istore 6, 2) := by decide +kernel
theorem dSh_centsLeft_6 : decode bSh_centsLeft 6 = .ok (.iload 6, 2) := by decide +kernel
theorem dSh_centsLeft_8 : decode bSh_centsLeft 8 = .ok (.iconst 4, 1) := by decide +kernel
theorem dSh_centsLeft_9 : decode bSh_centsLeft 9 = .ok (.if_icmp .ge 22, 3) := by decide +kernel
theorem dSh_centsLeft_12 : decode bSh_centsLeft 12 = .ok (.lload 4, 2) := by decide +kernel
theorem dSh_centsLeft_14 : decode bSh_centsLeft 14 = .ok (.aload_n 0, 1) := by decide +kernel
theorem dSh_centsLeft_15 : decode bSh_centsLeft 15 = .ok (.iload_n 1, 1) := by decide +kernel
theorem dSh_centsLeft_16 : decode bSh_centsLeft 16 = .ok (.iload 6, 2) := by decide +kernel
theorem dSh_centsLeft_18 : decode bSh_centsLeft 18 = .ok (.lload_n 2, 1) := by decide +kernel
theorem dSh_centsLeft_19 : decode bSh_centsLeft 19 = .ok (.invokevirtual 28, 3) := by decide +kernel
theorem dSh_centsLeft_22 : decode bSh_centsLeft 22 = .ok (.lsub, 1) := by decide +kernel
theorem dSh_centsLeft_23 : decode bSh_centsLeft 23 = .ok (.lstore 4, 2) := by decide +kernel
theorem dSh_centsLeft_25 : decode bSh_centsLeft 25 = .ok (.iinc 6 1, 3) := by decide +kernel
theorem dSh_centsLeft_28 : decode bSh_centsLeft 28 = .ok (.goto (-22), 3) := by decide +kernel
theorem dSh_centsLeft_31 : decode bSh_centsLeft 31 = .ok (.lload 4, 2) := by decide +kernel
theorem dSh_centsLeft_33 : decode bSh_centsLeft 33 = .ok (.lreturn, 1) := by decide +kernel
