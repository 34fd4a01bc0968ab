theorem dX1_init_0 : decode cX1_init 0 = .ok (.aload_n 0, 1) := by decide +kernel
theorem dX1_init_1 : decode cX1_init 1 = .ok (.invokespecial 1, 3) := by decide +kernel
theorem dX1_init_4 : decode cX1_init 4 = .ok (.return_, 1) := by decide +kernel
theorem dX1_traceLength_0 : decode cX1_traceLength 0 = .ok (.iconst 0, 1) := by decide +kernel
theorem dX1_traceLength_1 : decode cX1_traceLength 1 = .ok (.ireturn, 1) := by decide +kernel
theorem dX2_init_0 : decode cX2_init 0 = .ok (.aload_n 0, 1) := by decide +kernel
theorem dX2_init_1 : decode cX2_init 1 = .ok (.invokespecial 3, 3) := by decide +kernel
theorem dX2_init_4 : decode cX2_init 4 = .ok (.aload_n 0, 1) := by decide +kernel
theorem dX2_init_5 : decode cX2_init 5 = .ok (.bipush 100, 2) := by decide +kernel
theorem dX2_init_7 : decode cX2_init 7 = .ok (.newarray .boolean, 2) := by decide +kernel
theorem dX2_init_9 : decode cX2_init 9 = .ok (.putfield 9, 3) := by decide +kernel
theorem dX2_init_12 : decode cX2_init 12 = .ok (.aload_n 0, 1) := by decide +kernel
theorem dX2_init_13 : decode cX2_init 13 = .ok (.bipush 100, 2) := by decide +kernel
theorem dX2_init_15 : decode cX2_init 15 = .ok (.newarray .int, 2) := by decide +kernel
theorem dX2_init_17 : decode cX2_init 17 = .ok (.putfield 15, 3) := by decide +kernel
theorem dX2_init_20 : decode cX2_init 20 = .ok (.aload_n 0, 1) := by decide +kernel
theorem dX2_init_21 : decode cX2_init 21 = .ok (.iconst (-1), 1) := by decide +kernel
theorem dX2_init_22 : decode cX2_init 22 = .ok (.putfield 19, 3) := by decide +kernel
theorem dX2_init_25 : decode cX2_init 25 = .ok (.aload_n 0, 1) := by decide +kernel
theorem dX2_init_26 : decode cX2_init 26 = .ok (.aload_n 1, 1) := by decide +kernel
theorem dX2_init_27 : decode cX2_init 27 = .ok (.putfield 23, 3) := by decide +kernel
theorem dX2_init_30 : decode cX2_init 30 = .ok (.return_, 1) := by decide +kernel
theorem dX2_begin_0 : decode cX2_begin 0 = .ok (.aload_n 0, 1) := by decide +kernel
theorem dX2_begin_1 : decode cX2_begin 1 = .ok (.aload_n 1, 1) := by decide +kernel
theorem dX2_begin_2 : decode cX2_begin 2 = .ok (.iconst (-1), 1) := by decide +kernel
theorem dX2_begin_3 : decode cX2_begin 3 = .ok (.invokevirtual 27, 3) := by decide +kernel
theorem dX2_begin_6 : decode cX2_begin 6 = .ok (.pop, 1) := by decide +kernel
theorem dX2_begin_7 : decode cX2_begin 7 = .ok (.aload_n 0, 1) := by decide +kernel
theorem dX2_begin_8 : decode cX2_begin 8 = .ok (.getfield 15, 3) := by decide +kernel
theorem dX2_begin_11 : decode cX2_begin 11 = .ok (.iconst 0, 1) := by decide +kernel
theorem dX2_begin_12 : decode cX2_begin 12 = .ok (.invokestatic 31, 3) := by decide +kernel
theorem dX2_begin_15 : decode cX2_begin 15 = .ok (.aload_n 0, 1) := by decide +kernel
theorem dX2_begin_16 : decode cX2_begin 16 = .ok (.iconst (-1), 1) := by decide +kernel
theorem dX2_begin_17 : decode cX2_begin 17 = .ok (.putfield 19, 3) := by decide +kernel
theorem dX2_begin_20 : decode cX2_begin 20 = .ok (.return_, 1) := by decide +kernel
theorem dX2_price_0 : decode cX2_price 0 = .ok (.aload_n 0, 1) := by decide +kernel
theorem dX2_price_1 : decode cX2_price 1 = .ok (.getfield 19, 3) := by decide +kernel
theorem dX2_price_4 : decode cX2_price 4 = .ok (.iconst (-1), 1) := by decide +kernel
theorem dX2_price_5 : decode cX2_price 5 = .ok (.if_icmp .eq 17, 3) := by decide +kernel
theorem dX2_price_8 : decode cX2_price 8 = .ok (.aload_n 0, 1) := by decide +kernel
theorem dX2_price_9 : decode cX2_price 9 = .ok (.getfield 19, 3) := by decide +kernel
theorem dX2_price_12 : decode cX2_price 12 = .ok (.iload_n 1, 1) := by decide +kernel
theorem dX2_price_13 : decode cX2_price 13 = .ok (.iconst 1, 1) := by decide +kernel
theorem dX2_price_14 : decode cX2_price 14 = .ok (.isub, 1) := by decide +kernel
theorem dX2_price_15 : decode cX2_price 15 = .ok (.if_icmp .ne 7, 3) := by decide +kernel
theorem dX2_price_18 : decode cX2_price 18 = .ok (.iconst 1, 1) := by decide +kernel
theorem dX2_price_19 : decode cX2_price 19 = .ok (.goto 4, 3) := by decide +kernel
theorem dX2_price_22 : decode cX2_price 22 = .ok (.iconst 0, 1) := by decide +kernel
theorem dX2_price_23 : decode cX2_price 23 = .ok (.istore 4, 2) := by decide +kernel
theorem dX2_price_25 : decode cX2_price 25 = .ok (.aload_n 0, 1) := by decide +kernel
theorem dX2_price_26 : decode cX2_price 26 = .ok (.iload_n 1, 1) := by decide +kernel
theorem dX2_price_27 : decode cX2_price 27 = .ok (.putfield 19, 3) := by decide +kernel
theorem dX2_price_30 : decode cX2_price 30 = .ok (.iload 4, 2) := by decide +kernel
theorem dX2_price_32 : decode cX2_price 32 = .ok (.ifCond .eq 13, 3) := by decide +kernel
theorem dX2_price_35 : decode cX2_price 35 = .ok (.iload_n 1, 1) := by decide +kernel
theorem dX2_price_36 : decode cX2_price 36 = .ok (.ifCond .lt 9, 3) := by decide +kernel
theorem dX2_price_39 : decode cX2_price 39 = .ok (.iload_n 1, 1) := by decide +kernel
theorem dX2_price_40 : decode cX2_price 40 = .ok (.bipush 100, 2) := by decide +kernel
theorem dX2_price_42 : decode cX2_price 42 = .ok (.if_icmp .lt 5, 3) := by decide +kernel
theorem dX2_price_45 : decode cX2_price 45 = .ok (.iconst 4, 1) := by decide +kernel
theorem dX2_price_46 : decode cX2_price 46 = .ok (.ireturn, 1) := by decide +kernel
theorem dX2_price_47 : decode cX2_price 47 = .ok (.aload_n 0, 1) := by decide +kernel
theorem dX2_price_48 : decode cX2_price 48 = .ok (.getfield 15, 3) := by decide +kernel
theorem dX2_price_51 : decode cX2_price 51 = .ok (.iload_n 1, 1) := by decide +kernel
theorem dX2_price_52 : decode cX2_price 52 = .ok (.dup2, 1) := by decide +kernel
theorem dX2_price_53 : decode cX2_price 53 = .ok (.iaload, 1) := by decide +kernel
theorem dX2_price_54 : decode cX2_price 54 = .ok (.iconst 1, 1) := by decide +kernel
theorem dX2_price_55 : decode cX2_price 55 = .ok (.iadd, 1) := by decide +kernel
theorem dX2_price_56 : decode cX2_price 56 = .ok (.iastore, 1) := by decide +kernel
theorem dX2_price_57 : decode cX2_price 57 = .ok (.aload_n 0, 1) := by decide +kernel
theorem dX2_price_58 : decode cX2_price 58 = .ok (.getfield 9, 3) := by decide +kernel
theorem dX2_price_61 : decode cX2_price 61 = .ok (.iload_n 1, 1) := by decide +kernel
theorem dX2_price_62 : decode cX2_price 62 = .ok (.baload, 1) := by decide +kernel
theorem dX2_price_63 : decode cX2_price 63 = .ok (.ifCond .eq 7, 3) := by decide +kernel
theorem dX2_price_66 : decode cX2_price 66 = .ok (.iconst 0, 1) := by decide +kernel
theorem dX2_price_67 : decode cX2_price 67 = .ok (.goto 4, 3) := by decide +kernel
theorem dX2_price_70 : decode cX2_price 70 = .ok (.iconst 4, 1) := by decide +kernel
theorem dX2_price_71 : decode cX2_price 71 = .ok (.ireturn, 1) := by decide +kernel
theorem dX2_pairUp_0 : decode cX2_pairUp 0 = .ok (.iconst 0, 1) := by decide +kernel
theorem dX2_pairUp_1 : decode cX2_pairUp 1 = .ok (.istore_n 3, 1) := by decide +kernel
theorem dX2_pairUp_2 : decode cX2_pairUp 2 = .ok (.aload_n 0, 1) := by decide +kernel
theorem dX2_pairUp_3 : decode cX2_pairUp 3 = .ok (.getfield 9, 3) := by decide +kernel
theorem dX2_pairUp_6 : decode cX2_pairUp 6 = .ok (.iconst 0, 1) := by decide +kernel
theorem dX2_pairUp_7 : decode cX2_pairUp 7 = .ok (.iconst 0, 1) := by decide +kernel
theorem dX2_pairUp_8 : decode cX2_pairUp 8 = .ok (.bastore, 1) := by decide +kernel
theorem dX2_pairUp_9 : decode cX2_pairUp 9 = .ok (.iconst 1, 1) := by decide +kernel
theorem dX2_pairUp_10 : decode cX2_pairUp 10 = .ok (.istore 4, 2) := by decide +kernel
theorem dX2_pairUp_12 : decode cX2_pairUp 12 = .ok (.iload 4, 2) := by decide +kernel
theorem dX2_pairUp_14 : decode cX2_pairUp 14 = .ok (.bipush 100, 2) := by decide +kernel
theorem dX2_pairUp_16 : decode cX2_pairUp 16 = .ok (.if_icmp .ge 57, 3) := by decide +kernel
theorem dX2_pairUp_19 : decode cX2_pairUp 19 = .ok (.aload_n 0, 1) := by decide +kernel
theorem dX2_pairUp_20 : decode cX2_pairUp 20 = .ok (.getfield 9, 3) := by decide +kernel
theorem dX2_pairUp_23 : decode cX2_pairUp 23 = .ok (.iload 4, 2) := by decide +kernel
theorem dX2_pairUp_25 : decode cX2_pairUp 25 = .ok (.aload_n 0, 1) := by decide +kernel
theorem dX2_pairUp_26 : decode cX2_pairUp 26 = .ok (.getfield 9, 3) := by decide +kernel
theorem dX2_pairUp_29 : decode cX2_pairUp 29 = .ok (.iload 4, 2) := by decide +kernel
theorem dX2_pairUp_31 : decode cX2_pairUp 31 = .ok (.iconst 1, 1) := by decide +kernel
theorem dX2_pairUp_32 : decode cX2_pairUp 32 = .ok (.isub, 1) := by decide +kernel
theorem dX2_pairUp_33 : decode cX2_pairUp 33 = .ok (.baload, 1) := by decide +kernel
theorem dX2_pairUp_34 : decode cX2_pairUp 34 = .ok (.ifCond .ne 18, 3) := by decide +kernel
theorem dX2_pairUp_37 : decode cX2_pairUp 37 = .ok (.aload_n 0, 1) := by decide +kernel
theorem dX2_pairUp_38 : decode cX2_pairUp 38 = .ok (.aload_n 1, 1) := by decide +kernel
theorem dX2_pairUp_39 : decode cX2_pairUp 39 = .ok (.iload 4, 2) := by decide +kernel
theorem dX2_pairUp_41 : decode cX2_pairUp 41 = .ok (.iload_n 2, 1) := by decide +kernel
theorem dX2_pairUp_42 : decode cX2_pairUp 42 = .ok (.invokevirtual 37, 3) := by decide +kernel
theorem dX2_pairUp_45 : decode cX2_pairUp 45 = .ok (.ifCond .eq 7, 3) := by decide +kernel
theorem dX2_pairUp_48 : decode cX2_pairUp 48 = .ok (.iconst 1, 1) := by decide +kernel
theorem dX2_pairUp_49 : decode cX2_pairUp 49 = .ok (.goto 4, 3) := by decide +kernel
theorem dX2_pairUp_52 : decode cX2_pairUp 52 = .ok (.iconst 0, 1) := by decide +kernel
theorem dX2_pairUp_53 : decode cX2_pairUp 53 = .ok (.bastore, 1) := by decide +kernel
theorem dX2_pairUp_54 : decode cX2_pairUp 54 = .ok (.aload_n 0, 1) := by decide +kernel
theorem dX2_pairUp_55 : decode cX2_pairUp 55 = .ok (.getfield 9, 3) := by decide +kernel
theorem dX2_pairUp_58 : decode cX2_pairUp 58 = .ok (.iload 4, 2) := by decide +kernel
theorem dX2_pairUp_60 : decode cX2_pairUp 60 = .ok (.baload, 1) := by decide +kernel
theorem dX2_pairUp_61 : decode cX2_pairUp 61 = .ok (.ifCond .eq 6, 3) := by decide +kernel
theorem dX2_pairUp_64 : decode cX2_pairUp 64 = .ok (.iinc 3 1, 3) := by decide +kernel
theorem dX2_pairUp_67 : decode cX2_pairUp 67 = .ok (.iinc 4 1, 3) := by decide +kernel
theorem dX2_pairUp_70 : decode cX2_pairUp 70 = .ok (.goto (-58), 3) := by decide +kernel
theorem dX2_pairUp_73 : decode cX2_pairUp 73 = .ok (.iload_n 3, 1) := by decide +kernel
theorem dX2_pairUp_74 : decode cX2_pairUp 74 = .ok (.ireturn, 1) := by decide +kernel
theorem dX2_savedWith_0 : decode cX2_savedWith 0 = .ok (.aload_n 0, 1) := by decide +kernel
theorem dX2_savedWith_1 : decode cX2_savedWith 1 = .ok (.aload_n 1, 1) := by decide +kernel
theorem dX2_savedWith_2 : decode cX2_savedWith 2 = .ok (.iload_n 2, 1) := by decide +kernel
theorem dX2_savedWith_3 : decode cX2_savedWith 3 = .ok (.invokevirtual 27, 3) := by decide +kernel
theorem dX2_savedWith_6 : decode cX2_savedWith 6 = .ok (.pop, 1) := by decide +kernel
theorem dX2_savedWith_7 : decode cX2_savedWith 7 = .ok (.iconst 0, 1) := by decide +kernel
theorem dX2_savedWith_8 : decode cX2_savedWith 8 = .ok (.istore_n 3, 1) := by decide +kernel
theorem dX2_savedWith_9 : decode cX2_savedWith 9 = .ok (.iconst 0, 1) := by decide +kernel
theorem dX2_savedWith_10 : decode cX2_savedWith 10 = .ok (.istore 4, 2) := by decide +kernel
theorem dX2_savedWith_12 : decode cX2_savedWith 12 = .ok (.iload 4, 2) := by decide +kernel
theorem dX2_savedWith_14 : decode cX2_savedWith 14 = .ok (.bipush 100, 2) := by decide +kernel
theorem dX2_savedWith_16 : decode cX2_savedWith 16 = .ok (.if_icmp .ge 29, 3) := by decide +kernel
theorem dX2_savedWith_19 : decode cX2_savedWith 19 = .ok (.aload_n 0, 1) := by decide +kernel
theorem dX2_savedWith_20 : decode cX2_savedWith 20 = .ok (.getfield 9, 3) := by decide +kernel
theorem dX2_savedWith_23 : decode cX2_savedWith 23 = .ok (.iload 4, 2) := by decide +kernel
theorem dX2_savedWith_25 : decode cX2_savedWith 25 = .ok (.baload, 1) := by decide +kernel
theorem dX2_savedWith_26 : decode cX2_savedWith 26 = .ok (.ifCond .eq 13, 3) := by decide +kernel
theorem dX2_savedWith_29 : decode cX2_savedWith 29 = .ok (.iload_n 3, 1) := by decide +kernel
theorem dX2_savedWith_30 : decode cX2_savedWith 30 = .ok (.aload_n 0, 1) := by decide +kernel
theorem dX2_savedWith_31 : decode cX2_savedWith 31 = .ok (.getfield 15, 3) := by decide +kernel
theorem dX2_savedWith_34 : decode cX2_savedWith 34 = .ok (.iload 4, 2) := by decide +kernel
theorem dX2_savedWith_36 : decode cX2_savedWith 36 = .ok (.iaload, 1) := by decide +kernel
theorem dX2_savedWith_37 : decode cX2_savedWith 37 = .ok (.iadd, 1) := by decide +kernel
theorem dX2_savedWith_38 : decode cX2_savedWith 38 = .ok (.istore_n 3, 1) := by decide +kernel
theorem dX2_savedWith_39 : decode cX2_savedWith 39 = .ok (.iinc 4 1, 3) := by decide +kernel
theorem dX2_savedWith_42 : decode cX2_savedWith 42 = .ok (.goto (-30), 3) := by decide +kernel
theorem dX2_savedWith_45 : decode cX2_savedWith 45 = .ok (.iload_n 3, 1) := by decide +kernel
theorem dX2_savedWith_46 : decode cX2_savedWith 46 = .ok (.iconst 4, 1) := by decide +kernel
theorem dX2_savedWith_47 : decode cX2_savedWith 47 = .ok (.imul, 1) := by decide +kernel
theorem dX2_savedWith_48 : decode cX2_savedWith 48 = .ok (.ireturn, 1) := by decide +kernel
theorem dX2_canJoin_0 : decode cX2_canJoin 0 = .ok (.aload_n 1, 1) := by decide +kernel
theorem dX2_canJoin_1 : decode cX2_canJoin 1 = .ok (.iload_n 2, 1) := by decide +kernel
theorem dX2_canJoin_2 : decode cX2_canJoin 2 = .ok (.iconst 1, 1) := by decide +kernel
theorem dX2_canJoin_3 : decode cX2_canJoin 3 = .ok (.isub, 1) := by decide +kernel
theorem dX2_canJoin_4 : decode cX2_canJoin 4 = .ok (.invokevirtual 41, 3) := by decide +kernel
theorem dX2_canJoin_7 : decode cX2_canJoin 7 = .ok (.ifCond .eq 19, 3) := by decide +kernel
theorem dX2_canJoin_10 : decode cX2_canJoin 10 = .ok (.aload_n 1, 1) := by decide +kernel
theorem dX2_canJoin_11 : decode cX2_canJoin 11 = .ok (.iload_n 2, 1) := by decide +kernel
theorem dX2_canJoin_12 : decode cX2_canJoin 12 = .ok (.invokevirtual 41, 3) := by decide +kernel
theorem dX2_canJoin_15 : decode cX2_canJoin 15 = .ok (.ifCond .eq 11, 3) := by decide +kernel
theorem dX2_canJoin_18 : decode cX2_canJoin 18 = .ok (.aload_n 1, 1) := by decide +kernel
theorem dX2_canJoin_19 : decode cX2_canJoin 19 = .ok (.iload_n 2, 1) := by decide +kernel
theorem dX2_canJoin_20 : decode cX2_canJoin 20 = .ok (.invokevirtual 47, 3) := by decide +kernel
theorem dX2_canJoin_23 : decode cX2_canJoin 23 = .ok (.ifCond .eq 5, 3) := by decide +kernel
theorem dX2_canJoin_26 : decode cX2_canJoin 26 = .ok (.iconst 0, 1) := by decide +kernel
theorem dX2_canJoin_27 : decode cX2_canJoin 27 = .ok (.ireturn, 1) := by decide +kernel
theorem dX2_canJoin_28 : decode cX2_canJoin 28 = .ok (.aload_n 1, 1) := by decide +kernel
theorem dX2_canJoin_29 : decode cX2_canJoin 29 = .ok (.iload_n 2, 1) := by decide +kernel
theorem dX2_canJoin_30 : decode cX2_canJoin 30 = .ok (.iconst 1, 1) := by decide +kernel
theorem dX2_canJoin_31 : decode cX2_canJoin 31 = .ok (.isub, 1) := by decide +kernel
theorem dX2_canJoin_32 : decode cX2_canJoin 32 = .ok (.invokevirtual 50, 3) := by decide +kernel
theorem dX2_canJoin_35 : decode cX2_canJoin 35 = .ok (.getfield 54, 3) := by decide +kernel
theorem dX2_canJoin_38 : decode cX2_canJoin 38 = .ok (.aload_n 1, 1) := by decide +kernel
theorem dX2_canJoin_39 : decode cX2_canJoin 39 = .ok (.iload_n 2, 1) := by decide +kernel
theorem dX2_canJoin_40 : decode cX2_canJoin 40 = .ok (.invokevirtual 50, 3) := by decide +kernel
theorem dX2_canJoin_43 : decode cX2_canJoin 43 = .ok (.getfield 54, 3) := by decide +kernel
theorem dX2_canJoin_46 : decode cX2_canJoin 46 = .ok (.invokestatic 59, 3) := by decide +kernel
theorem dX2_canJoin_49 : decode cX2_canJoin 49 = .ok (.istore 4, 2) := by decide +kernel
theorem dX2_canJoin_51 : decode cX2_canJoin 51 = .ok (.iload 4, 2) := by decide +kernel
theorem dX2_canJoin_53 : decode cX2_canJoin 53 = .ok (.iload_n 3, 1) := by decide +kernel
theorem dX2_canJoin_54 : decode cX2_canJoin 54 = .ok (.if_icmp .eq 15, 3) := by decide +kernel
theorem dX2_canJoin_57 : decode cX2_canJoin 57 = .ok (.aload_n 0, 1) := by decide +kernel
theorem dX2_canJoin_58 : decode cX2_canJoin 58 = .ok (.getfield 23, 3) := by decide +kernel
theorem dX2_canJoin_61 : decode cX2_canJoin 61 = .ok (.iload 4, 2) := by decide +kernel
theorem dX2_canJoin_63 : decode cX2_canJoin 63 = .ok (.invokevirtual 63, 3) := by decide +kernel
theorem dX2_canJoin_66 : decode cX2_canJoin 66 = .ok (.ifCond .eq 7, 3) := by decide +kernel
theorem dX2_canJoin_69 : decode cX2_canJoin 69 = .ok (.iconst 1, 1) := by decide +kernel
theorem dX2_canJoin_70 : decode cX2_canJoin 70 = .ok (.goto 4, 3) := by decide +kernel
theorem dX2_canJoin_73 : decode cX2_canJoin 73 = .ok (.iconst 0, 1) := by decide +kernel
theorem dX2_canJoin_74 : decode cX2_canJoin 74 = .ok (.ireturn, 1) := by decide +kernel
theorem dX3_init_0 : decode cX3_init 0 = .ok (.aload_n 0, 1) := by decide +kernel
theorem dX3_init_1 : decode cX3_init 1 = .ok (.invokespecial 3, 3) := by decide +kernel
theorem dX3_init_4 : decode cX3_init 4 = .ok (.aload_n 0, 1) := by decide +kernel
theorem dX3_init_5 : decode cX3_init 5 = .ok (.sipush 225, 3) := by decide +kernel
theorem dX3_init_8 : decode cX3_init 8 = .ok (.newarray .boolean, 2) := by decide +kernel
theorem dX3_init_10 : decode cX3_init 10 = .ok (.putfield 9, 3) := by decide +kernel
theorem dX3_init_13 : decode cX3_init 13 = .ok (.aload_n 0, 1) := by decide +kernel
theorem dX3_init_14 : decode cX3_init 14 = .ok (.iconst 0, 1) := by decide +kernel
theorem dX3_init_15 : decode cX3_init 15 = .ok (.putfield 15, 3) := by decide +kernel
theorem dX3_init_18 : decode cX3_init 18 = .ok (.return_, 1) := by decide +kernel
theorem dX3_has_0 : decode cX3_has 0 = .ok (.iload_n 1, 1) := by decide +kernel
theorem dX3_has_1 : decode cX3_has 1 = .ok (.ifCond .lt 23, 3) := by decide +kernel
theorem dX3_has_4 : decode cX3_has 4 = .ok (.iload_n 1, 1) := by decide +kernel
theorem dX3_has_5 : decode cX3_has 5 = .ok (.sipush 225, 3) := by decide +kernel
theorem dX3_has_8 : decode cX3_has 8 = .ok (.if_icmp .ge 16, 3) := by decide +kernel
theorem dX3_has_11 : decode cX3_has 11 = .ok (.aload_n 0, 1) := by decide +kernel
theorem dX3_has_12 : decode cX3_has 12 = .ok (.getfield 9, 3) := by decide +kernel
theorem dX3_has_15 : decode cX3_has 15 = .ok (.iload_n 1, 1) := by decide +kernel
theorem dX3_has_16 : decode cX3_has 16 = .ok (.baload, 1) := by decide +kernel
theorem dX3_has_17 : decode cX3_has 17 = .ok (.ifCond .eq 7, 3) := by decide +kernel
theorem dX3_has_20 : decode cX3_has 20 = .ok (.iconst 1, 1) := by decide +kernel
theorem dX3_has_21 : decode cX3_has 21 = .ok (.goto 4, 3) := by decide +kernel
theorem dX3_has_24 : decode cX3_has 24 = .ok (.iconst 0, 1) := by decide +kernel
theorem dX3_has_25 : decode cX3_has 25 = .ok (.ireturn, 1) := by decide +kernel
theorem dX3_add_0 : decode cX3_add 0 = .ok (.iload_n 1, 1) := by decide +kernel
theorem dX3_add_1 : decode cX3_add 1 = .ok (.ifCond .lt 36, 3) := by decide +kernel
theorem dX3_add_4 : decode cX3_add 4 = .ok (.iload_n 1, 1) := by decide +kernel
theorem dX3_add_5 : decode cX3_add 5 = .ok (.sipush 225, 3) := by decide +kernel
theorem dX3_add_8 : decode cX3_add 8 = .ok (.if_icmp .ge 29, 3) := by decide +kernel
theorem dX3_add_11 : decode cX3_add 11 = .ok (.aload_n 0, 1) := by decide +kernel
theorem dX3_add_12 : decode cX3_add 12 = .ok (.getfield 9, 3) := by decide +kernel
theorem dX3_add_15 : decode cX3_add 15 = .ok (.iload_n 1, 1) := by decide +kernel
theorem dX3_add_16 : decode cX3_add 16 = .ok (.baload, 1) := by decide +kernel
theorem dX3_add_17 : decode cX3_add 17 = .ok (.ifCond .ne 20, 3) := by decide +kernel
theorem dX3_add_20 : decode cX3_add 20 = .ok (.aload_n 0, 1) := by decide +kernel
theorem dX3_add_21 : decode cX3_add 21 = .ok (.getfield 9, 3) := by decide +kernel
theorem dX3_add_24 : decode cX3_add 24 = .ok (.iload_n 1, 1) := by decide +kernel
theorem dX3_add_25 : decode cX3_add 25 = .ok (.iconst 1, 1) := by decide +kernel
theorem dX3_add_26 : decode cX3_add 26 = .ok (.bastore, 1) := by decide +kernel
theorem dX3_add_27 : decode cX3_add 27 = .ok (.aload_n 0, 1) := by decide +kernel
theorem dX3_add_28 : decode cX3_add 28 = .ok (.dup, 1) := by decide +kernel
theorem dX3_add_29 : decode cX3_add 29 = .ok (.getfield 15, 3) := by decide +kernel
theorem dX3_add_32 : decode cX3_add 32 = .ok (.iconst 1, 1) := by decide +kernel
theorem dX3_add_33 : decode cX3_add 33 = .ok (.iadd, 1) := by decide +kernel
theorem dX3_add_34 : decode cX3_add 34 = .ok (.putfield 15, 3) := by decide +kernel
theorem dX3_add_37 : decode cX3_add 37 = .ok (.return_, 1) := by decide +kernel
theorem dX3_clear_0 : decode cX3_clear 0 = .ok (.iconst 0, 1) := by decide +kernel
theorem dX3_clear_1 : decode cX3_clear 1 = .ok (.istore_n 1, 1) := by decide +kernel
theorem dX3_clear_2 : decode cX3_clear 2 = .ok (.iload_n 1, 1) := by decide +kernel
theorem dX3_clear_3 : decode cX3_clear 3 = .ok (.sipush 225, 3) := by decide +kernel
theorem dX3_clear_6 : decode cX3_clear 6 = .ok (.if_icmp .ge 16, 3) := by decide +kernel
theorem dX3_clear_9 : decode cX3_clear 9 = .ok (.aload_n 0, 1) := by decide +kernel
theorem dX3_clear_10 : decode cX3_clear 10 = .ok (.getfield 9, 3) := by decide +kernel
theorem dX3_clear_13 : decode cX3_clear 13 = .ok (.iload_n 1, 1) := by decide +kernel
theorem dX3_clear_14 : decode cX3_clear 14 = .ok (.iconst 0, 1) := by decide +kernel
theorem dX3_clear_15 : decode cX3_clear 15 = .ok (.bastore, 1) := by decide +kernel
theorem dX3_clear_16 : decode cX3_clear 16 = .ok (.iinc 1 1, 3) := by decide +kernel
theorem dX3_clear_19 : decode cX3_clear 19 = .ok (.goto (-17), 3) := by decide +kernel
theorem dX3_clear_22 : decode cX3_clear 22 = .ok (.aload_n 0, 1) := by decide +kernel
theorem dX3_clear_23 : decode cX3_clear 23 = .ok (.iconst 0, 1) := by decide +kernel
theorem dX3_clear_24 : decode cX3_clear 24 = .ok (.putfield 15, 3) := by decide +kernel
theorem dX3_clear_27 : decode cX3_clear 27 = .ok (.return_, 1) := by decide +kernel
theorem dX4_init_0 : decode cX4_init 0 = .ok (.aload_n 0, 1) := by decide +kernel
theorem dX4_init_1 : decode cX4_init 1 = .ok (.invokespecial 3, 3) := by decide +kernel
theorem dX4_init_4 : decode cX4_init 4 = .ok (.aload_n 0, 1) := by decide +kernel
theorem dX4_init_5 : decode cX4_init 5 = .ok (.iconst 0, 1) := by decide +kernel
theorem dX4_init_6 : decode cX4_init 6 = .ok (.putfield 9, 3) := by decide +kernel
theorem dX4_init_9 : decode cX4_init 9 = .ok (.return_, 1) := by decide +kernel
theorem dX4_begin_0 : decode cX4_begin 0 = .ok (.aload_n 0, 1) := by decide +kernel
theorem dX4_begin_1 : decode cX4_begin 1 = .ok (.iconst 0, 1) := by decide +kernel
theorem dX4_begin_2 : decode cX4_begin 2 = .ok (.putfield 9, 3) := by decide +kernel
theorem dX4_begin_5 : decode cX4_begin 5 = .ok (.return_, 1) := by decide +kernel
theorem dX4_price_0 : decode cX4_price 0 = .ok (.iconst 4, 1) := by decide +kernel
theorem dX4_price_1 : decode cX4_price 1 = .ok (.istore 4, 2) := by decide +kernel
theorem dX4_price_3 : decode cX4_price 3 = .ok (.aload_n 0, 1) := by decide +kernel
theorem dX4_price_4 : decode cX4_price 4 = .ok (.getfield 9, 3) := by decide +kernel
theorem dX4_price_7 : decode cX4_price 7 = .ok (.ifCond .eq 13, 3) := by decide +kernel
theorem dX4_price_10 : decode cX4_price 10 = .ok (.aload_n 2, 1) := by decide +kernel
theorem dX4_price_11 : decode cX4_price 11 = .ok (.getfield 15, 3) := by decide +kernel
theorem dX4_price_14 : decode cX4_price 14 = .ok (.ifCond .le 6, 3) := by decide +kernel
theorem dX4_price_17 : decode cX4_price 17 = .ok (.iinc 4 (-1), 3) := by decide +kernel
theorem dX4_price_20 : decode cX4_price 20 = .ok (.aload_n 0, 1) := by decide +kernel
theorem dX4_price_21 : decode cX4_price 21 = .ok (.getfield 9, 3) := by decide +kernel
theorem dX4_price_24 : decode cX4_price 24 = .ok (.ifCond .eq 20, 3) := by decide +kernel
theorem dX4_price_27 : decode cX4_price 27 = .ok (.aload_n 2, 1) := by decide +kernel
theorem dX4_price_28 : decode cX4_price 28 = .ok (.getfield 15, 3) := by decide +kernel
theorem dX4_price_31 : decode cX4_price 31 = .ok (.ifCond .ne 13, 3) := by decide +kernel
theorem dX4_price_34 : decode cX4_price 34 = .ok (.aload_n 2, 1) := by decide +kernel
theorem dX4_price_35 : decode cX4_price 35 = .ok (.getfield 21, 3) := by decide +kernel
theorem dX4_price_38 : decode cX4_price 38 = .ok (.ifCond .le 6, 3) := by decide +kernel
theorem dX4_price_41 : decode cX4_price 41 = .ok (.iinc 4 1, 3) := by decide +kernel
theorem dX4_price_44 : decode cX4_price 44 = .ok (.aload_n 2, 1) := by decide +kernel
theorem dX4_price_45 : decode cX4_price 45 = .ok (.getfield 21, 3) := by decide +kernel
theorem dX4_price_48 : decode cX4_price 48 = .ok (.ifCond .le 6, 3) := by decide +kernel
theorem dX4_price_51 : decode cX4_price 51 = .ok (.iinc 4 (-1), 3) := by decide +kernel
theorem dX4_price_54 : decode cX4_price 54 = .ok (.aload_n 2, 1) := by decide +kernel
theorem dX4_price_55 : decode cX4_price 55 = .ok (.getfield 21, 3) := by decide +kernel
theorem dX4_price_58 : decode cX4_price 58 = .ok (.ifCond .le 11, 3) := by decide +kernel
theorem dX4_price_61 : decode cX4_price 61 = .ok (.aload_n 0, 1) := by decide +kernel
theorem dX4_price_62 : decode cX4_price 62 = .ok (.iconst 1, 1) := by decide +kernel
theorem dX4_price_63 : decode cX4_price 63 = .ok (.putfield 9, 3) := by decide +kernel
theorem dX4_price_66 : decode cX4_price 66 = .ok (.goto 15, 3) := by decide +kernel
theorem dX4_price_69 : decode cX4_price 69 = .ok (.aload_n 2, 1) := by decide +kernel
theorem dX4_price_70 : decode cX4_price 70 = .ok (.getfield 15, 3) := by decide +kernel
theorem dX4_price_73 : decode cX4_price 73 = .ok (.ifCond .le 8, 3) := by decide +kernel
theorem dX4_price_76 : decode cX4_price 76 = .ok (.aload_n 0, 1) := by decide +kernel
theorem dX4_price_77 : decode cX4_price 77 = .ok (.iconst 0, 1) := by decide +kernel
theorem dX4_price_78 : decode cX4_price 78 = .ok (.putfield 9, 3) := by decide +kernel
theorem dX4_price_81 : decode cX4_price 81 = .ok (.iload 4, 2) := by decide +kernel
theorem dX4_price_83 : decode cX4_price 83 = .ok (.ireturn, 1) := by decide +kernel
theorem dX5_ownPrice_0 : decode cX5_ownPrice 0 = .ok (.aload_n 0, 1) := by decide +kernel
theorem dX5_ownPrice_1 : decode cX5_ownPrice 1 = .ok (.getfield 84, 3) := by decide +kernel
theorem dX5_ownPrice_4 : decode cX5_ownPrice 4 = .ok (.aload_n 0, 1) := by decide +kernel
theorem dX5_ownPrice_5 : decode cX5_ownPrice 5 = .ok (.getfield 78, 3) := by decide +kernel
theorem dX5_ownPrice_8 : decode cX5_ownPrice 8 = .ok (.iadd, 1) := by decide +kernel
theorem dX5_ownPrice_9 : decode cX5_ownPrice 9 = .ok (.aload_n 0, 1) := by decide +kernel
theorem dX5_ownPrice_10 : decode cX5_ownPrice 10 = .ok (.getfield 81, 3) := by decide +kernel
theorem dX5_ownPrice_13 : decode cX5_ownPrice 13 = .ok (.iadd, 1) := by decide +kernel
theorem dX5_ownPrice_14 : decode cX5_ownPrice 14 = .ok (.ireturn, 1) := by decide +kernel
theorem dX6_init_0 : decode cX6_init 0 = .ok (.aload_n 0, 1) := by decide +kernel
theorem dX6_init_1 : decode cX6_init 1 = .ok (.invokespecial 3, 3) := by decide +kernel
theorem dX6_init_4 : decode cX6_init 4 = .ok (.aload_n 0, 1) := by decide +kernel
theorem dX6_init_5 : decode cX6_init 5 = .ok (.bipush 32, 2) := by decide +kernel
theorem dX6_init_7 : decode cX6_init 7 = .ok (.newarray .int, 2) := by decide +kernel
theorem dX6_init_9 : decode cX6_init 9 = .ok (.putfield 9, 3) := by decide +kernel
theorem dX6_init_12 : decode cX6_init 12 = .ok (.aload_n 0, 1) := by decide +kernel
theorem dX6_init_13 : decode cX6_init 13 = .ok (.bipush 8, 2) := by decide +kernel
theorem dX6_init_15 : decode cX6_init 15 = .ok (.newarray .int, 2) := by decide +kernel
theorem dX6_init_17 : decode cX6_init 17 = .ok (.putfield 15, 3) := by decide +kernel
theorem dX6_init_20 : decode cX6_init 20 = .ok (.aload_n 0, 1) := by decide +kernel
theorem dX6_init_21 : decode cX6_init 21 = .ok (.bipush 60, 2) := by decide +kernel
theorem dX6_init_23 : decode cX6_init 23 = .ok (.newarray .int, 2) := by decide +kernel
theorem dX6_init_25 : decode cX6_init 25 = .ok (.putfield 18, 3) := by decide +kernel
theorem dX6_init_28 : decode cX6_init 28 = .ok (.aload_n 0, 1) := by decide +kernel
theorem dX6_init_29 : decode cX6_init 29 = .ok (.bipush 15, 2) := by decide +kernel
theorem dX6_init_31 : decode cX6_init 31 = .ok (.newarray .int, 2) := by decide +kernel
theorem dX6_init_33 : decode cX6_init 33 = .ok (.putfield 21, 3) := by decide +kernel
theorem dX6_init_36 : decode cX6_init 36 = .ok (.aload_n 0, 1) := by decide +kernel
theorem dX6_init_37 : decode cX6_init 37 = .ok (.sipush 225, 3) := by decide +kernel
theorem dX6_init_40 : decode cX6_init 40 = .ok (.newarray .int, 2) := by decide +kernel
theorem dX6_init_42 : decode cX6_init 42 = .ok (.putfield 24, 3) := by decide +kernel
theorem dX6_init_45 : decode cX6_init 45 = .ok (.aload_n 0, 1) := by decide +kernel
theorem dX6_init_46 : decode cX6_init 46 = .ok (.bipush 100, 2) := by decide +kernel
theorem dX6_init_48 : decode cX6_init 48 = .ok (.newarray .int, 2) := by decide +kernel
theorem dX6_init_50 : decode cX6_init 50 = .ok (.putfield 27, 3) := by decide +kernel
theorem dX6_init_53 : decode cX6_init 53 = .ok (.aload_n 0, 1) := by decide +kernel
theorem dX6_init_54 : decode cX6_init 54 = .ok (.iconst 0, 1) := by decide +kernel
theorem dX6_init_55 : decode cX6_init 55 = .ok (.putfield 30, 3) := by decide +kernel
theorem dX6_init_58 : decode cX6_init 58 = .ok (.aload_n 0, 1) := by decide +kernel
theorem dX6_init_59 : decode cX6_init 59 = .ok (.iconst 0, 1) := by decide +kernel
theorem dX6_init_60 : decode cX6_init 60 = .ok (.putfield 34, 3) := by decide +kernel
theorem dX6_init_63 : decode cX6_init 63 = .ok (.aload_n 0, 1) := by decide +kernel
theorem dX6_init_64 : decode cX6_init 64 = .ok (.iconst (-1), 1) := by decide +kernel
theorem dX6_init_65 : decode cX6_init 65 = .ok (.putfield 38, 3) := by decide +kernel
theorem dX6_init_68 : decode cX6_init 68 = .ok (.aload_n 0, 1) := by decide +kernel
theorem dX6_init_69 : decode cX6_init 69 = .ok (.iconst 0, 1) := by decide +kernel
theorem dX6_init_70 : decode cX6_init 70 = .ok (.putfield 41, 3) := by decide +kernel
theorem dX6_init_73 : decode cX6_init 73 = .ok (.aload_n 0, 1) := by decide +kernel
theorem dX6_init_74 : decode cX6_init 74 = .ok (.iconst 0, 1) := by decide +kernel
theorem dX6_init_75 : decode cX6_init 75 = .ok (.putfield 44, 3) := by decide +kernel
theorem dX6_init_78 : decode cX6_init 78 = .ok (.aload_n 0, 1) := by decide +kernel
theorem dX6_init_79 : decode cX6_init 79 = .ok (.iconst 0, 1) := by decide +kernel
theorem dX6_init_80 : decode cX6_init 80 = .ok (.putfield 47, 3) := by decide +kernel
theorem dX6_init_83 : decode cX6_init 83 = .ok (.aload_n 0, 1) := by decide +kernel
theorem dX6_init_84 : decode cX6_init 84 = .ok (.iconst 0, 1) := by decide +kernel
theorem dX6_init_85 : decode cX6_init 85 = .ok (.putfield 50, 3) := by decide +kernel
theorem dX6_init_88 : decode cX6_init 88 = .ok (.aload_n 0, 1) := by decide +kernel
theorem dX6_init_89 : decode cX6_init 89 = .ok (.iconst 0, 1) := by decide +kernel
theorem dX6_init_90 : decode cX6_init 90 = .ok (.putfield 53, 3) := by decide +kernel
theorem dX6_init_93 : decode cX6_init 93 = .ok (.aload_n 0, 1) := by decide +kernel
theorem dX6_init_94 : decode cX6_init 94 = .ok (.iconst 0, 1) := by decide +kernel
theorem dX6_init_95 : decode cX6_init 95 = .ok (.putfield 56, 3) := by decide +kernel
theorem dX6_init_98 : decode cX6_init 98 = .ok (.aload_n 0, 1) := by decide +kernel
theorem dX6_init_99 : decode cX6_init 99 = .ok (.iconst (-1), 1) := by decide +kernel
theorem dX6_init_100 : decode cX6_init 100 = .ok (.putfield 59, 3) := by decide +kernel
theorem dX6_init_103 : decode cX6_init 103 = .ok (.aload_n 0, 1) := by decide +kernel
theorem dX6_init_104 : decode cX6_init 104 = .ok (.iconst 0, 1) := by decide +kernel
theorem dX6_init_105 : decode cX6_init 105 = .ok (.putfield 62, 3) := by decide +kernel
theorem dX6_init_108 : decode cX6_init 108 = .ok (.return_, 1) := by decide +kernel
theorem dX6_go_0 : decode cX6_go 0 = .ok (.aload_n 0, 1) := by decide +kernel
theorem dX6_go_1 : decode cX6_go 1 = .ok (.invokevirtual 65, 3) := by decide +kernel
theorem dX6_go_4 : decode cX6_go 4 = .ok (.aload_n 0, 1) := by decide +kernel
theorem dX6_go_5 : decode cX6_go 5 = .ok (.iconst 1, 1) := by decide +kernel
theorem dX6_go_6 : decode cX6_go 6 = .ok (.putfield 30, 3) := by decide +kernel
theorem dX6_go_9 : decode cX6_go 9 = .ok (.aload_n 0, 1) := by decide +kernel
theorem dX6_go_10 : decode cX6_go 10 = .ok (.aload_n 1, 1) := by decide +kernel
theorem dX6_go_11 : decode cX6_go 11 = .ok (.getfield 68, 3) := by decide +kernel
theorem dX6_go_14 : decode cX6_go 14 = .ok (.putfield 34, 3) := by decide +kernel
theorem dX6_go_17 : decode cX6_go 17 = .ok (.aload_n 0, 1) := by decide +kernel
theorem dX6_go_18 : decode cX6_go 18 = .ok (.iload 4, 2) := by decide +kernel
theorem dX6_go_20 : decode cX6_go 20 = .ok (.invokevirtual 73, 3) := by decide +kernel
theorem dX6_go_23 : decode cX6_go 23 = .ok (.aload_n 0, 1) := by decide +kernel
theorem dX6_go_24 : decode cX6_go 24 = .ok (.aload_n 0, 1) := by decide +kernel
theorem dX6_go_25 : decode cX6_go 25 = .ok (.getfield 47, 3) := by decide +kernel
theorem dX6_go_28 : decode cX6_go 28 = .ok (.putfield 50, 3) := by decide +kernel
theorem dX6_go_31 : decode cX6_go 31 = .ok (.aload_n 2, 1) := by decide +kernel
theorem dX6_go_32 : decode cX6_go 32 = .ok (.aload_n 1, 1) := by decide +kernel
theorem dX6_go_33 : decode cX6_go 33 = .ok (.invokevirtual 77, 3) := by decide +kernel
theorem dX6_go_36 : decode cX6_go 36 = .ok (.iconst 0, 1) := by decide +kernel
theorem dX6_go_37 : decode cX6_go 37 = .ok (.istore 5, 2) := by decide +kernel
theorem dX6_go_39 : decode cX6_go 39 = .ok (.iload 5, 2) := by decide +kernel
theorem dX6_go_41 : decode cX6_go 41 = .ok (.iload_n 3, 1) := by decide +kernel
theorem dX6_go_42 : decode cX6_go 42 = .ok (.if_icmp .gt 41, 3) := by decide +kernel
theorem dX6_go_45 : decode cX6_go 45 = .ok (.aload_n 0, 1) := by decide +kernel
theorem dX6_go_46 : decode cX6_go 46 = .ok (.getfield 38, 3) := by decide +kernel
theorem dX6_go_49 : decode cX6_go 49 = .ok (.iconst (-1), 1) := by decide +kernel
theorem dX6_go_50 : decode cX6_go 50 = .ok (.if_icmp .ne 33, 3) := by decide +kernel
theorem dX6_go_53 : decode cX6_go 53 = .ok (.aload_n 0, 1) := by decide +kernel
theorem dX6_go_54 : decode cX6_go 54 = .ok (.aload_n 0, 1) := by decide +kernel
theorem dX6_go_55 : decode cX6_go 55 = .ok (.aload_n 1, 1) := by decide +kernel
theorem dX6_go_56 : decode cX6_go 56 = .ok (.iload_n 3, 1) := by decide +kernel
theorem dX6_go_57 : decode cX6_go 57 = .ok (.invokevirtual 83, 3) := by decide +kernel
theorem dX6_go_60 : decode cX6_go 60 = .ok (.putfield 38, 3) := by decide +kernel
theorem dX6_go_63 : decode cX6_go 63 = .ok (.aload_n 0, 1) := by decide +kernel
theorem dX6_go_64 : decode cX6_go 64 = .ok (.getfield 38, 3) := by decide +kernel
theorem dX6_go_67 : decode cX6_go 67 = .ok (.iconst (-1), 1) := by decide +kernel
theorem dX6_go_68 : decode cX6_go 68 = .ok (.if_icmp .ne 9, 3) := by decide +kernel
theorem dX6_go_71 : decode cX6_go 71 = .ok (.aload_n 0, 1) := by decide +kernel
theorem dX6_go_72 : decode cX6_go 72 = .ok (.aload_n 1, 1) := by decide +kernel
theorem dX6_go_73 : decode cX6_go 73 = .ok (.aload_n 2, 1) := by decide +kernel
theorem dX6_go_74 : decode cX6_go 74 = .ok (.invokevirtual 87, 3) := by decide +kernel
theorem dX6_go_77 : decode cX6_go 77 = .ok (.iinc 5 1, 3) := by decide +kernel
theorem dX6_go_80 : decode cX6_go 80 = .ok (.goto (-41), 3) := by decide +kernel
theorem dX6_go_83 : decode cX6_go 83 = .ok (.aload_n 0, 1) := by decide +kernel
theorem dX6_go_84 : decode cX6_go 84 = .ok (.aload_n 2, 1) := by decide +kernel
theorem dX6_go_85 : decode cX6_go 85 = .ok (.invokevirtual 91, 3) := by decide +kernel
theorem dX6_go_88 : decode cX6_go 88 = .ok (.return_, 1) := by decide +kernel
theorem dX6_cellAt_0 : decode cX6_cellAt 0 = .ok (.iload_n 1, 1) := by decide +kernel
theorem dX6_cellAt_1 : decode cX6_cellAt 1 = .ok (.ifCond .lt 18, 3) := by decide +kernel
theorem dX6_cellAt_4 : decode cX6_cellAt 4 = .ok (.iload_n 1, 1) := by decide +kernel
theorem dX6_cellAt_5 : decode cX6_cellAt 5 = .ok (.bipush 8, 2) := by decide +kernel
theorem dX6_cellAt_7 : decode cX6_cellAt 7 = .ok (.if_icmp .ge 12, 3) := by decide +kernel
theorem dX6_cellAt_10 : decode cX6_cellAt 10 = .ok (.aload_n 0, 1) := by decide +kernel
theorem dX6_cellAt_11 : decode cX6_cellAt 11 = .ok (.getfield 15, 3) := by decide +kernel
theorem dX6_cellAt_14 : decode cX6_cellAt 14 = .ok (.iload_n 1, 1) := by decide +kernel
theorem dX6_cellAt_15 : decode cX6_cellAt 15 = .ok (.iaload, 1) := by decide +kernel
theorem dX6_cellAt_16 : decode cX6_cellAt 16 = .ok (.goto 4, 3) := by decide +kernel
theorem dX6_cellAt_19 : decode cX6_cellAt 19 = .ok (.iconst 0, 1) := by decide +kernel
theorem dX6_cellAt_20 : decode cX6_cellAt 20 = .ok (.ireturn, 1) := by decide +kernel
theorem dX6_mostFollowed_0 : decode cX6_mostFollowed 0 = .ok (.iconst (-1), 1) := by decide +kernel
theorem dX6_mostFollowed_1 : decode cX6_mostFollowed 1 = .ok (.istore_n 1, 1) := by decide +kernel
theorem dX6_mostFollowed_2 : decode cX6_mostFollowed 2 = .ok (.iconst 0, 1) := by decide +kernel
theorem dX6_mostFollowed_3 : decode cX6_mostFollowed 3 = .ok (.istore_n 2, 1) := by decide +kernel
theorem dX6_mostFollowed_4 : decode cX6_mostFollowed 4 = .ok (.iconst 0, 1) := by decide +kernel
theorem dX6_mostFollowed_5 : decode cX6_mostFollowed 5 = .ok (.istore_n 3, 1) := by decide +kernel
theorem dX6_mostFollowed_6 : decode cX6_mostFollowed 6 = .ok (.iload_n 3, 1) := by decide +kernel
theorem dX6_mostFollowed_7 : decode cX6_mostFollowed 7 = .ok (.sipush 225, 3) := by decide +kernel
theorem dX6_mostFollowed_10 : decode cX6_mostFollowed 10 = .ok (.if_icmp .ge 28, 3) := by decide +kernel
theorem dX6_mostFollowed_13 : decode cX6_mostFollowed 13 = .ok (.aload_n 0, 1) := by decide +kernel
theorem dX6_mostFollowed_14 : decode cX6_mostFollowed 14 = .ok (.getfield 24, 3) := by decide +kernel
theorem dX6_mostFollowed_17 : decode cX6_mostFollowed 17 = .ok (.iload_n 3, 1) := by decide +kernel
theorem dX6_mostFollowed_18 : decode cX6_mostFollowed 18 = .ok (.iaload, 1) := by decide +kernel
theorem dX6_mostFollowed_19 : decode cX6_mostFollowed 19 = .ok (.iload_n 2, 1) := by decide +kernel
theorem dX6_mostFollowed_20 : decode cX6_mostFollowed 20 = .ok (.if_icmp .le 12, 3) := by decide +kernel
theorem dX6_mostFollowed_23 : decode cX6_mostFollowed 23 = .ok (.aload_n 0, 1) := by decide +kernel
theorem dX6_mostFollowed_24 : decode cX6_mostFollowed 24 = .ok (.getfield 24, 3) := by decide +kernel
theorem dX6_mostFollowed_27 : decode cX6_mostFollowed 27 = .ok (.iload_n 3, 1) := by decide +kernel
theorem dX6_mostFollowed_28 : decode cX6_mostFollowed 28 = .ok (.iaload, 1) := by decide +kernel
theorem dX6_mostFollowed_29 : decode cX6_mostFollowed 29 = .ok (.istore_n 2, 1) := by decide +kernel
theorem dX6_mostFollowed_30 : decode cX6_mostFollowed 30 = .ok (.iload_n 3, 1) := by decide +kernel
theorem dX6_mostFollowed_31 : decode cX6_mostFollowed 31 = .ok (.istore_n 1, 1) := by decide +kernel
theorem dX6_mostFollowed_32 : decode cX6_mostFollowed 32 = .ok (.iinc 3 1, 3) := by decide +kernel
theorem dX6_mostFollowed_35 : decode cX6_mostFollowed 35 = .ok (.goto (-29), 3) := by decide +kernel
theorem dX6_mostFollowed_38 : decode cX6_mostFollowed 38 = .ok (.iload_n 1, 1) := by decide +kernel
theorem dX6_mostFollowed_39 : decode cX6_mostFollowed 39 = .ok (.ireturn, 1) := by decide +kernel
theorem dX6_clear_0 : decode cX6_clear 0 = .ok (.aload_n 0, 1) := by decide +kernel
theorem dX6_clear_1 : decode cX6_clear 1 = .ok (.getfield 15, 3) := by decide +kernel
theorem dX6_clear_4 : decode cX6_clear 4 = .ok (.iconst 0, 1) := by decide +kernel
theorem dX6_clear_5 : decode cX6_clear 5 = .ok (.invokestatic 95, 3) := by decide +kernel
theorem dX6_clear_8 : decode cX6_clear 8 = .ok (.aload_n 0, 1) := by decide +kernel
theorem dX6_clear_9 : decode cX6_clear 9 = .ok (.getfield 21, 3) := by decide +kernel
theorem dX6_clear_12 : decode cX6_clear 12 = .ok (.iconst 0, 1) := by decide +kernel
theorem dX6_clear_13 : decode cX6_clear 13 = .ok (.invokestatic 95, 3) := by decide +kernel
theorem dX6_clear_16 : decode cX6_clear 16 = .ok (.aload_n 0, 1) := by decide +kernel
theorem dX6_clear_17 : decode cX6_clear 17 = .ok (.getfield 24, 3) := by decide +kernel
theorem dX6_clear_20 : decode cX6_clear 20 = .ok (.iconst 0, 1) := by decide +kernel
theorem dX6_clear_21 : decode cX6_clear 21 = .ok (.invokestatic 95, 3) := by decide +kernel
theorem dX6_clear_24 : decode cX6_clear 24 = .ok (.aload_n 0, 1) := by decide +kernel
theorem dX6_clear_25 : decode cX6_clear 25 = .ok (.iconst (-1), 1) := by decide +kernel
theorem dX6_clear_26 : decode cX6_clear 26 = .ok (.putfield 38, 3) := by decide +kernel
theorem dX6_clear_29 : decode cX6_clear 29 = .ok (.aload_n 0, 1) := by decide +kernel
theorem dX6_clear_30 : decode cX6_clear 30 = .ok (.iconst 0, 1) := by decide +kernel
theorem dX6_clear_31 : decode cX6_clear 31 = .ok (.putfield 41, 3) := by decide +kernel
theorem dX6_clear_34 : decode cX6_clear 34 = .ok (.aload_n 0, 1) := by decide +kernel
theorem dX6_clear_35 : decode cX6_clear 35 = .ok (.iconst 0, 1) := by decide +kernel
theorem dX6_clear_36 : decode cX6_clear 36 = .ok (.putfield 44, 3) := by decide +kernel
theorem dX6_clear_39 : decode cX6_clear 39 = .ok (.aload_n 0, 1) := by decide +kernel
theorem dX6_clear_40 : decode cX6_clear 40 = .ok (.iconst 0, 1) := by decide +kernel
theorem dX6_clear_41 : decode cX6_clear 41 = .ok (.putfield 47, 3) := by decide +kernel
theorem dX6_clear_44 : decode cX6_clear 44 = .ok (.aload_n 0, 1) := by decide +kernel
theorem dX6_clear_45 : decode cX6_clear 45 = .ok (.iconst 0, 1) := by decide +kernel
theorem dX6_clear_46 : decode cX6_clear 46 = .ok (.putfield 53, 3) := by decide +kernel
theorem dX6_clear_49 : decode cX6_clear 49 = .ok (.aload_n 0, 1) := by decide +kernel
theorem dX6_clear_50 : decode cX6_clear 50 = .ok (.iconst 0, 1) := by decide +kernel
theorem dX6_clear_51 : decode cX6_clear 51 = .ok (.putfield 56, 3) := by decide +kernel
theorem dX6_clear_54 : decode cX6_clear 54 = .ok (.aload_n 0, 1) := by decide +kernel
theorem dX6_clear_55 : decode cX6_clear 55 = .ok (.iconst (-1), 1) := by decide +kernel
theorem dX6_clear_56 : decode cX6_clear 56 = .ok (.putfield 59, 3) := by decide +kernel
theorem dX6_clear_59 : decode cX6_clear 59 = .ok (.return_, 1) := by decide +kernel
theorem dX6_endAhead_0 : decode cX6_endAhead 0 = .ok (.aload_n 1, 1) := by decide +kernel
theorem dX6_endAhead_1 : decode cX6_endAhead 1 = .ok (.aload_n 0, 1) := by decide +kernel
theorem dX6_endAhead_2 : decode cX6_endAhead 2 = .ok (.getfield 56, 3) := by decide +kernel
theorem dX6_endAhead_5 : decode cX6_endAhead 5 = .ok (.invokevirtual 101, 3) := by decide +kernel
theorem dX6_endAhead_8 : decode cX6_endAhead 8 = .ok (.ifCond .ne 5, 3) := by decide +kernel
theorem dX6_endAhead_11 : decode cX6_endAhead 11 = .ok (.iconst 4, 1) := by decide +kernel
theorem dX6_endAhead_12 : decode cX6_endAhead 12 = .ok (.ireturn, 1) := by decide +kernel
theorem dX6_endAhead_13 : decode cX6_endAhead 13 = .ok (.aload_n 0, 1) := by decide +kernel
theorem dX6_endAhead_14 : decode cX6_endAhead 14 = .ok (.getfield 41, 3) := by decide +kernel
theorem dX6_endAhead_17 : decode cX6_endAhead 17 = .ok (.iload_n 2, 1) := by decide +kernel
theorem dX6_endAhead_18 : decode cX6_endAhead 18 = .ok (.if_icmp .lt 5, 3) := by decide +kernel
theorem dX6_endAhead_21 : decode cX6_endAhead 21 = .ok (.iconst 1, 1) := by decide +kernel
theorem dX6_endAhead_22 : decode cX6_endAhead 22 = .ok (.ireturn, 1) := by decide +kernel
theorem dX6_endAhead_23 : decode cX6_endAhead 23 = .ok (.aload_n 1, 1) := by decide +kernel
theorem dX6_endAhead_24 : decode cX6_endAhead 24 = .ok (.aload_n 0, 1) := by decide +kernel
theorem dX6_endAhead_25 : decode cX6_endAhead 25 = .ok (.getfield 56, 3) := by decide +kernel
theorem dX6_endAhead_28 : decode cX6_endAhead 28 = .ok (.invokevirtual 105, 3) := by decide +kernel
theorem dX6_endAhead_31 : decode cX6_endAhead 31 = .ok (.astore_n 3, 1) := by decide +kernel
theorem dX6_endAhead_32 : decode cX6_endAhead 32 = .ok (.aload_n 0, 1) := by decide +kernel
theorem dX6_endAhead_33 : decode cX6_endAhead 33 = .ok (.getfield 47, 3) := by decide +kernel
theorem dX6_endAhead_36 : decode cX6_endAhead 36 = .ok (.aload_n 3, 1) := by decide +kernel
theorem dX6_endAhead_37 : decode cX6_endAhead 37 = .ok (.getfield 109, 3) := by decide +kernel
theorem dX6_endAhead_40 : decode cX6_endAhead 40 = .ok (.if_icmp .ge 5, 3) := by decide +kernel
theorem dX6_endAhead_43 : decode cX6_endAhead 43 = .ok (.iconst 2, 1) := by decide +kernel
theorem dX6_endAhead_44 : decode cX6_endAhead 44 = .ok (.ireturn, 1) := by decide +kernel
theorem dX6_endAhead_45 : decode cX6_endAhead 45 = .ok (.aload_n 0, 1) := by decide +kernel
theorem dX6_endAhead_46 : decode cX6_endAhead 46 = .ok (.getfield 47, 3) := by decide +kernel
theorem dX6_endAhead_49 : decode cX6_endAhead 49 = .ok (.aload_n 3, 1) := by decide +kernel
theorem dX6_endAhead_50 : decode cX6_endAhead 50 = .ok (.getfield 109, 3) := by decide +kernel
theorem dX6_endAhead_53 : decode cX6_endAhead 53 = .ok (.isub, 1) := by decide +kernel
theorem dX6_endAhead_54 : decode cX6_endAhead 54 = .ok (.aload_n 3, 1) := by decide +kernel
theorem dX6_endAhead_55 : decode cX6_endAhead 55 = .ok (.getfield 114, 3) := by decide +kernel
theorem dX6_endAhead_58 : decode cX6_endAhead 58 = .ok (.iadd, 1) := by decide +kernel
theorem dX6_endAhead_59 : decode cX6_endAhead 59 = .ok (.bipush 32, 2) := by decide +kernel
theorem dX6_endAhead_61 : decode cX6_endAhead 61 = .ok (.if_icmp .le 5, 3) := by decide +kernel
theorem dX6_endAhead_64 : decode cX6_endAhead 64 = .ok (.iconst 3, 1) := by decide +kernel
theorem dX6_endAhead_65 : decode cX6_endAhead 65 = .ok (.ireturn, 1) := by decide +kernel
theorem dX6_endAhead_66 : decode cX6_endAhead 66 = .ok (.iconst (-1), 1) := by decide +kernel
theorem dX6_endAhead_67 : decode cX6_endAhead 67 = .ok (.ireturn, 1) := by decide +kernel
theorem dX6_step_0 : decode cX6_step 0 = .ok (.aload_n 1, 1) := by decide +kernel
theorem dX6_step_1 : decode cX6_step 1 = .ok (.aload_n 0, 1) := by decide +kernel
theorem dX6_step_2 : decode cX6_step 2 = .ok (.getfield 56, 3) := by decide +kernel
theorem dX6_step_5 : decode cX6_step 5 = .ok (.invokevirtual 105, 3) := by decide +kernel
theorem dX6_step_8 : decode cX6_step 8 = .ok (.astore_n 3, 1) := by decide +kernel
theorem dX6_step_9 : decode cX6_step 9 = .ok (.aload_n 0, 1) := by decide +kernel
theorem dX6_step_10 : decode cX6_step 10 = .ok (.aload_n 3, 1) := by decide +kernel
theorem dX6_step_11 : decode cX6_step 11 = .ok (.aload_n 1, 1) := by decide +kernel
theorem dX6_step_12 : decode cX6_step 12 = .ok (.aload_n 0, 1) := by decide +kernel
theorem dX6_step_13 : decode cX6_step 13 = .ok (.getfield 56, 3) := by decide +kernel
theorem dX6_step_16 : decode cX6_step 16 = .ok (.invokevirtual 117, 3) := by decide +kernel
theorem dX6_step_19 : decode cX6_step 19 = .ok (.invokevirtual 121, 3) := by decide +kernel
theorem dX6_step_22 : decode cX6_step 22 = .ok (.istore 4, 2) := by decide +kernel
theorem dX6_step_24 : decode cX6_step 24 = .ok (.aload_n 0, 1) := by decide +kernel
theorem dX6_step_25 : decode cX6_step 25 = .ok (.dup, 1) := by decide +kernel
theorem dX6_step_26 : decode cX6_step 26 = .ok (.getfield 44, 3) := by decide +kernel
theorem dX6_step_29 : decode cX6_step 29 = .ok (.aload_n 2, 1) := by decide +kernel
theorem dX6_step_30 : decode cX6_step 30 = .ok (.aload_n 0, 1) := by decide +kernel
theorem dX6_step_31 : decode cX6_step 31 = .ok (.getfield 56, 3) := by decide +kernel
theorem dX6_step_34 : decode cX6_step 34 = .ok (.aload_n 3, 1) := by decide +kernel
theorem dX6_step_35 : decode cX6_step 35 = .ok (.iload 4, 2) := by decide +kernel
theorem dX6_step_37 : decode cX6_step 37 = .ok (.invokevirtual 125, 3) := by decide +kernel
theorem dX6_step_40 : decode cX6_step 40 = .ok (.aload_n 3, 1) := by decide +kernel
theorem dX6_step_41 : decode cX6_step 41 = .ok (.invokevirtual 129, 3) := by decide +kernel
theorem dX6_step_44 : decode cX6_step 44 = .ok (.iadd, 1) := by decide +kernel
theorem dX6_step_45 : decode cX6_step 45 = .ok (.iadd, 1) := by decide +kernel
theorem dX6_step_46 : decode cX6_step 46 = .ok (.putfield 44, 3) := by decide +kernel
theorem dX6_step_49 : decode cX6_step 49 = .ok (.aload_n 0, 1) := by decide +kernel
theorem dX6_step_50 : decode cX6_step 50 = .ok (.dup, 1) := by decide +kernel
theorem dX6_step_51 : decode cX6_step 51 = .ok (.getfield 41, 3) := by decide +kernel
theorem dX6_step_54 : decode cX6_step 54 = .ok (.iconst 1, 1) := by decide +kernel
theorem dX6_step_55 : decode cX6_step 55 = .ok (.iadd, 1) := by decide +kernel
theorem dX6_step_56 : decode cX6_step 56 = .ok (.putfield 41, 3) := by decide +kernel
theorem dX6_step_59 : decode cX6_step 59 = .ok (.aload_n 0, 1) := by decide +kernel
theorem dX6_step_60 : decode cX6_step 60 = .ok (.aload_n 0, 1) := by decide +kernel
theorem dX6_step_61 : decode cX6_step 61 = .ok (.getfield 50, 3) := by decide +kernel
theorem dX6_step_64 : decode cX6_step 64 = .ok (.aload_n 0, 1) := by decide +kernel
theorem dX6_step_65 : decode cX6_step 65 = .ok (.getfield 47, 3) := by decide +kernel
theorem dX6_step_68 : decode cX6_step 68 = .ok (.invokestatic 133, 3) := by decide +kernel
theorem dX6_step_71 : decode cX6_step 71 = .ok (.putfield 50, 3) := by decide +kernel
theorem dX6_step_74 : decode cX6_step 74 = .ok (.aload_n 0, 1) := by decide +kernel
theorem dX6_step_75 : decode cX6_step 75 = .ok (.aload_n 3, 1) := by decide +kernel
theorem dX6_step_76 : decode cX6_step 76 = .ok (.getfield 139, 3) := by decide +kernel
theorem dX6_step_79 : decode cX6_step 79 = .ok (.invokevirtual 142, 3) := by decide +kernel
theorem dX6_step_82 : decode cX6_step 82 = .ok (.aload_n 3, 1) := by decide +kernel
theorem dX6_step_83 : decode cX6_step 83 = .ok (.getstatic 145, 3) := by decide +kernel
theorem dX6_step_86 : decode cX6_step 86 = .ok (.if_acmp .ne 11, 3) := by decide +kernel
theorem dX6_step_89 : decode cX6_step 89 = .ok (.aload_n 0, 1) := by decide +kernel
theorem dX6_step_90 : decode cX6_step 90 = .ok (.iconst 0, 1) := by decide +kernel
theorem dX6_step_91 : decode cX6_step 91 = .ok (.putfield 38, 3) := by decide +kernel
theorem dX6_step_94 : decode cX6_step 94 = .ok (.goto 24, 3) := by decide +kernel
theorem dX6_step_97 : decode cX6_step 97 = .ok (.aload_n 0, 1) := by decide +kernel
theorem dX6_step_98 : decode cX6_step 98 = .ok (.iload 4, 2) := by decide +kernel
theorem dX6_step_100 : decode cX6_step 100 = .ok (.iconst (-1), 1) := by decide +kernel
theorem dX6_step_101 : decode cX6_step 101 = .ok (.if_icmp .ne 12, 3) := by decide +kernel
theorem dX6_step_104 : decode cX6_step 104 = .ok (.aload_n 0, 1) := by decide +kernel
theorem dX6_step_105 : decode cX6_step 105 = .ok (.getfield 56, 3) := by decide +kernel
theorem dX6_step_108 : decode cX6_step 108 = .ok (.iconst 1, 1) := by decide +kernel
theorem dX6_step_109 : decode cX6_step 109 = .ok (.iadd, 1) := by decide +kernel
theorem dX6_step_110 : decode cX6_step 110 = .ok (.goto 5, 3) := by decide +kernel
theorem dX6_step_113 : decode cX6_step 113 = .ok (.iload 4, 2) := by decide +kernel
theorem dX6_step_115 : decode cX6_step 115 = .ok (.putfield 56, 3) := by decide +kernel
theorem dX6_step_118 : decode cX6_step 118 = .ok (.return_, 1) := by decide +kernel
theorem dX6_tally_0 : decode cX6_tally 0 = .ok (.iload_n 1, 1) := by decide +kernel
theorem dX6_tally_1 : decode cX6_tally 1 = .ok (.invokestatic 149, 3) := by decide +kernel
theorem dX6_tally_4 : decode cX6_tally 4 = .ok (.ifCond .ne 4, 3) := by decide +kernel
theorem dX6_tally_7 : decode cX6_tally 7 = .ok (.return_, 1) := by decide +kernel
theorem dX6_tally_8 : decode cX6_tally 8 = .ok (.aload_n 0, 1) := by decide +kernel
theorem dX6_tally_9 : decode cX6_tally 9 = .ok (.getfield 21, 3) := by decide +kernel
theorem dX6_tally_12 : decode cX6_tally 12 = .ok (.iload_n 1, 1) := by decide +kernel
theorem dX6_tally_13 : decode cX6_tally 13 = .ok (.dup2, 1) := by decide +kernel
theorem dX6_tally_14 : decode cX6_tally 14 = .ok (.iaload, 1) := by decide +kernel
theorem dX6_tally_15 : decode cX6_tally 15 = .ok (.iconst 1, 1) := by decide +kernel
theorem dX6_tally_16 : decode cX6_tally 16 = .ok (.iadd, 1) := by decide +kernel
theorem dX6_tally_17 : decode cX6_tally 17 = .ok (.iastore, 1) := by decide +kernel
theorem dX6_tally_18 : decode cX6_tally 18 = .ok (.aload_n 0, 1) := by decide +kernel
theorem dX6_tally_19 : decode cX6_tally 19 = .ok (.getfield 59, 3) := by decide +kernel
theorem dX6_tally_22 : decode cX6_tally 22 = .ok (.invokestatic 149, 3) := by decide +kernel
theorem dX6_tally_25 : decode cX6_tally 25 = .ok (.ifCond .eq 20, 3) := by decide +kernel
theorem dX6_tally_28 : decode cX6_tally 28 = .ok (.aload_n 0, 1) := by decide +kernel
theorem dX6_tally_29 : decode cX6_tally 29 = .ok (.getfield 24, 3) := by decide +kernel
theorem dX6_tally_32 : decode cX6_tally 32 = .ok (.aload_n 0, 1) := by decide +kernel
theorem dX6_tally_33 : decode cX6_tally 33 = .ok (.getfield 59, 3) := by decide +kernel
theorem dX6_tally_36 : decode cX6_tally 36 = .ok (.iload_n 1, 1) := by decide +kernel
theorem dX6_tally_37 : decode cX6_tally 37 = .ok (.invokestatic 152, 3) := by decide +kernel
theorem dX6_tally_40 : decode cX6_tally 40 = .ok (.dup2, 1) := by decide +kernel
theorem dX6_tally_41 : decode cX6_tally 41 = .ok (.iaload, 1) := by decide +kernel
theorem dX6_tally_42 : decode cX6_tally 42 = .ok (.iconst 1, 1) := by decide +kernel
theorem dX6_tally_43 : decode cX6_tally 43 = .ok (.iadd, 1) := by decide +kernel
theorem dX6_tally_44 : decode cX6_tally 44 = .ok (.iastore, 1) := by decide +kernel
theorem dX6_tally_45 : decode cX6_tally 45 = .ok (.aload_n 0, 1) := by decide +kernel
theorem dX6_tally_46 : decode cX6_tally 46 = .ok (.iload_n 1, 1) := by decide +kernel
theorem dX6_tally_47 : decode cX6_tally 47 = .ok (.putfield 59, 3) := by decide +kernel
theorem dX6_tally_50 : decode cX6_tally 50 = .ok (.return_, 1) := by decide +kernel
theorem dX6_perform_0 : decode cX6_perform 0 = .ok (.getstatic 155, 3) := by decide +kernel
theorem dX6_perform_3 : decode cX6_perform 3 = .ok (.aload_n 1, 1) := by decide +kernel
theorem dX6_perform_4 : decode cX6_perform 4 = .ok (.invokevirtual 160, 3) := by decide +kernel
theorem dX6_perform_7 : decode cX6_perform 7 = .ok (.iaload, 1) := by decide +kernel
theorem dX6_perform_8 : decode cX6_perform 8 = .ok (.tableswitch 100 1 7 #[44, 51, 62, 73, 83, 85, 98], 44) := by decide +kernel
theorem dX6_perform_52 : decode cX6_perform 52 = .ok (.aload_n 0, 1) := by decide +kernel
theorem dX6_perform_53 : decode cX6_perform 53 = .ok (.iload_n 2, 1) := by decide +kernel
theorem dX6_perform_54 : decode cX6_perform 54 = .ok (.invokevirtual 73, 3) := by decide +kernel
theorem dX6_perform_57 : decode cX6_perform 57 = .ok (.iconst (-1), 1) := by decide +kernel
theorem dX6_perform_58 : decode cX6_perform 58 = .ok (.ireturn, 1) := by decide +kernel
theorem dX6_perform_59 : decode cX6_perform 59 = .ok (.aload_n 0, 1) := by decide +kernel
theorem dX6_perform_60 : decode cX6_perform 60 = .ok (.aload_n 0, 1) := by decide +kernel
theorem dX6_perform_61 : decode cX6_perform 61 = .ok (.iload_n 2, 1) := by decide +kernel
theorem dX6_perform_62 : decode cX6_perform 62 = .ok (.invokevirtual 163, 3) := by decide +kernel
theorem dX6_perform_65 : decode cX6_perform 65 = .ok (.invokevirtual 73, 3) := by decide +kernel
theorem dX6_perform_68 : decode cX6_perform 68 = .ok (.iconst (-1), 1) := by decide +kernel
theorem dX6_perform_69 : decode cX6_perform 69 = .ok (.ireturn, 1) := by decide +kernel
theorem dX6_perform_70 : decode cX6_perform 70 = .ok (.aload_n 0, 1) := by decide +kernel
theorem dX6_perform_71 : decode cX6_perform 71 = .ok (.iload_n 2, 1) := by decide +kernel
theorem dX6_perform_72 : decode cX6_perform 72 = .ok (.aload_n 0, 1) := by decide +kernel
theorem dX6_perform_73 : decode cX6_perform 73 = .ok (.invokevirtual 166, 3) := by decide +kernel
theorem dX6_perform_76 : decode cX6_perform 76 = .ok (.invokevirtual 169, 3) := by decide +kernel
theorem dX6_perform_79 : decode cX6_perform 79 = .ok (.iconst (-1), 1) := by decide +kernel
theorem dX6_perform_80 : decode cX6_perform 80 = .ok (.ireturn, 1) := by decide +kernel
theorem dX6_perform_81 : decode cX6_perform 81 = .ok (.aload_n 0, 1) := by decide +kernel
theorem dX6_perform_82 : decode cX6_perform 82 = .ok (.aload_n 0, 1) := by decide +kernel
theorem dX6_perform_83 : decode cX6_perform 83 = .ok (.invokevirtual 166, 3) := by decide +kernel
theorem dX6_perform_86 : decode cX6_perform 86 = .ok (.invokevirtual 173, 3) := by decide +kernel
theorem dX6_perform_89 : decode cX6_perform 89 = .ok (.iconst (-1), 1) := by decide +kernel
theorem dX6_perform_90 : decode cX6_perform 90 = .ok (.ireturn, 1) := by decide +kernel
theorem dX6_perform_91 : decode cX6_perform 91 = .ok (.iload_n 2, 1) := by decide +kernel
theorem dX6_perform_92 : decode cX6_perform 92 = .ok (.ireturn, 1) := by decide +kernel
theorem dX6_perform_93 : decode cX6_perform 93 = .ok (.aload_n 0, 1) := by decide +kernel
theorem dX6_perform_94 : decode cX6_perform 94 = .ok (.invokevirtual 166, 3) := by decide +kernel
theorem dX6_perform_97 : decode cX6_perform 97 = .ok (.ifCond .ne 7, 3) := by decide +kernel
theorem dX6_perform_100 : decode cX6_perform 100 = .ok (.iload_n 2, 1) := by decide +kernel
theorem dX6_perform_101 : decode cX6_perform 101 = .ok (.goto 4, 3) := by decide +kernel
theorem dX6_perform_104 : decode cX6_perform 104 = .ok (.iconst (-1), 1) := by decide +kernel
theorem dX6_perform_105 : decode cX6_perform 105 = .ok (.ireturn, 1) := by decide +kernel
theorem dX6_perform_106 : decode cX6_perform 106 = .ok (.iconst (-1), 1) := by decide +kernel
theorem dX6_perform_107 : decode cX6_perform 107 = .ok (.ireturn, 1) := by decide +kernel
theorem dX6_perform_108 : decode cX6_perform 108 = .ok (.aload_n 0, 1) := by decide +kernel
theorem dX6_perform_109 : decode cX6_perform 109 = .ok (.aload_n 1, 1) := by decide +kernel
theorem dX6_perform_110 : decode cX6_perform 110 = .ok (.invokevirtual 176, 3) := by decide +kernel
theorem dX6_perform_113 : decode cX6_perform 113 = .ok (.iconst (-1), 1) := by decide +kernel
theorem dX6_perform_114 : decode cX6_perform 114 = .ok (.ireturn, 1) := by decide +kernel
theorem dX6_rearrange_0 : decode cX6_rearrange 0 = .ok (.aload_n 0, 1) := by decide +kernel
theorem dX6_rearrange_1 : decode cX6_rearrange 1 = .ok (.invokevirtual 166, 3) := by decide +kernel
theorem dX6_rearrange_4 : decode cX6_rearrange 4 = .ok (.istore_n 2, 1) := by decide +kernel
theorem dX6_rearrange_5 : decode cX6_rearrange 5 = .ok (.aload_n 1, 1) := by decide +kernel
theorem dX6_rearrange_6 : decode cX6_rearrange 6 = .ok (.getfield 109, 3) := by decide +kernel
theorem dX6_rearrange_9 : decode cX6_rearrange 9 = .ok (.iconst 1, 1) := by decide +kernel
theorem dX6_rearrange_10 : decode cX6_rearrange 10 = .ok (.if_icmp .le 10, 3) := by decide +kernel
theorem dX6_rearrange_13 : decode cX6_rearrange 13 = .ok (.aload_n 0, 1) := by decide +kernel
theorem dX6_rearrange_14 : decode cX6_rearrange 14 = .ok (.invokevirtual 166, 3) := by decide +kernel
theorem dX6_rearrange_17 : decode cX6_rearrange 17 = .ok (.goto 4, 3) := by decide +kernel
theorem dX6_rearrange_20 : decode cX6_rearrange 20 = .ok (.iconst 0, 1) := by decide +kernel
theorem dX6_rearrange_21 : decode cX6_rearrange 21 = .ok (.istore_n 3, 1) := by decide +kernel
theorem dX6_rearrange_22 : decode cX6_rearrange 22 = .ok (.getstatic 155, 3) := by decide +kernel
theorem dX6_rearrange_25 : decode cX6_rearrange 25 = .ok (.aload_n 1, 1) := by decide +kernel
theorem dX6_rearrange_26 : decode cX6_rearrange 26 = .ok (.invokevirtual 160, 3) := by decide +kernel
theorem dX6_rearrange_29 : decode cX6_rearrange 29 = .ok (.iaload, 1) := by decide +kernel
theorem dX6_rearrange_30 : decode cX6_rearrange 30 = .ok (.tableswitch 133 8 14 #[42, 55, 68, 86, 96, 106, 116], 42) := by decide +kernel
theorem dX6_rearrange_72 : decode cX6_rearrange 72 = .ok (.aload_n 0, 1) := by decide +kernel
theorem dX6_rearrange_73 : decode cX6_rearrange 73 = .ok (.iload_n 2, 1) := by decide +kernel
theorem dX6_rearrange_74 : decode cX6_rearrange 74 = .ok (.invokevirtual 73, 3) := by decide +kernel
theorem dX6_rearrange_77 : decode cX6_rearrange 77 = .ok (.aload_n 0, 1) := by decide +kernel
theorem dX6_rearrange_78 : decode cX6_rearrange 78 = .ok (.iload_n 2, 1) := by decide +kernel
theorem dX6_rearrange_79 : decode cX6_rearrange 79 = .ok (.invokevirtual 73, 3) := by decide +kernel
theorem dX6_rearrange_82 : decode cX6_rearrange 82 = .ok (.goto 81, 3) := by decide +kernel
theorem dX6_rearrange_85 : decode cX6_rearrange 85 = .ok (.aload_n 0, 1) := by decide +kernel
theorem dX6_rearrange_86 : decode cX6_rearrange 86 = .ok (.iload_n 2, 1) := by decide +kernel
theorem dX6_rearrange_87 : decode cX6_rearrange 87 = .ok (.invokevirtual 73, 3) := by decide +kernel
theorem dX6_rearrange_90 : decode cX6_rearrange 90 = .ok (.aload_n 0, 1) := by decide +kernel
theorem dX6_rearrange_91 : decode cX6_rearrange 91 = .ok (.iload_n 3, 1) := by decide +kernel
theorem dX6_rearrange_92 : decode cX6_rearrange 92 = .ok (.invokevirtual 73, 3) := by decide +kernel
theorem dX6_rearrange_95 : decode cX6_rearrange 95 = .ok (.goto 68, 3) := by decide +kernel
theorem dX6_rearrange_98 : decode cX6_rearrange 98 = .ok (.aload_n 0, 1) := by decide +kernel
