theorem dX14_feed_15 : decode cX14_feed 15 = .ok (.if_icmp .le 5, 3) := by decide +kernel
theorem dX14_feed_18 : decode cX14_feed 18 = .ok (.iconst (-1), 1) := by decide +kernel
theorem dX14_feed_19 : decode cX14_feed 19 = .ok (.ireturn, 1) := by decide +kernel
theorem dX14_feed_20 : decode cX14_feed 20 = .ok (.iconst 0, 1) := by decide +kernel
theorem dX14_feed_21 : decode cX14_feed 21 = .ok (.istore 6, 2) := by decide +kernel
theorem dX14_feed_23 : decode cX14_feed 23 = .ok (.iload 6, 2) := by decide +kernel
theorem dX14_feed_25 : decode cX14_feed 25 = .ok (.bipush 20, 2) := by decide +kernel
theorem dX14_feed_27 : decode cX14_feed 27 = .ok (.if_icmp .ge 90, 3) := by decide +kernel
theorem dX14_feed_30 : decode cX14_feed 30 = .ok (.iload 6, 2) := by decide +kernel
theorem dX14_feed_32 : decode cX14_feed 32 = .ok (.iconst 4, 1) := by decide +kernel
theorem dX14_feed_33 : decode cX14_feed 33 = .ok (.if_icmp .ge 7, 3) := by decide +kernel
theorem dX14_feed_36 : decode cX14_feed 36 = .ok (.iload_n 1, 1) := by decide +kernel
theorem dX14_feed_37 : decode cX14_feed 37 = .ok (.goto 39, 3) := by decide +kernel
theorem dX14_feed_40 : decode cX14_feed 40 = .ok (.iload 6, 2) := by decide +kernel
theorem dX14_feed_42 : decode cX14_feed 42 = .ok (.bipush 8, 2) := by decide +kernel
theorem dX14_feed_44 : decode cX14_feed 44 = .ok (.if_icmp .ge 7, 3) := by decide +kernel
theorem dX14_feed_47 : decode cX14_feed 47 = .ok (.iload_n 2, 1) := by decide +kernel
theorem dX14_feed_48 : decode cX14_feed 48 = .ok (.goto 28, 3) := by decide +kernel
theorem dX14_feed_51 : decode cX14_feed 51 = .ok (.iload 6, 2) := by decide +kernel
theorem dX14_feed_53 : decode cX14_feed 53 = .ok (.bipush 12, 2) := by decide +kernel
theorem dX14_feed_55 : decode cX14_feed 55 = .ok (.if_icmp .ge 7, 3) := by decide +kernel
theorem dX14_feed_58 : decode cX14_feed 58 = .ok (.iload_n 3, 1) := by decide +kernel
theorem dX14_feed_59 : decode cX14_feed 59 = .ok (.goto 17, 3) := by decide +kernel
theorem dX14_feed_62 : decode cX14_feed 62 = .ok (.iload 6, 2) := by decide +kernel
theorem dX14_feed_64 : decode cX14_feed 64 = .ok (.bipush 16, 2) := by decide +kernel
theorem dX14_feed_66 : decode cX14_feed 66 = .ok (.if_icmp .ge 8, 3) := by decide +kernel
theorem dX14_feed_69 : decode cX14_feed 69 = .ok (.iload 4, 2) := by decide +kernel
theorem dX14_feed_71 : decode cX14_feed 71 = .ok (.goto 5, 3) := by decide +kernel
theorem dX14_feed_74 : decode cX14_feed 74 = .ok (.iload 5, 2) := by decide +kernel
theorem dX14_feed_76 : decode cX14_feed 76 = .ok (.istore 7, 2) := by decide +kernel
theorem dX14_feed_78 : decode cX14_feed 78 = .ok (.aload_n 0, 1) := by decide +kernel
theorem dX14_feed_79 : decode cX14_feed 79 = .ok (.getfield 30, 3) := by decide +kernel
theorem dX14_feed_82 : decode cX14_feed 82 = .ok (.aload_n 0, 1) := by decide +kernel
theorem dX14_feed_83 : decode cX14_feed 83 = .ok (.getfield 231, 3) := by decide +kernel
theorem dX14_feed_86 : decode cX14_feed 86 = .ok (.iload 7, 2) := by decide +kernel
theorem dX14_feed_88 : decode cX14_feed 88 = .ok (.bipush 24, 2) := by decide +kernel
theorem dX14_feed_90 : decode cX14_feed 90 = .ok (.bipush 8, 2) := by decide +kernel
theorem dX14_feed_92 : decode cX14_feed 92 = .ok (.iload 6, 2) := by decide +kernel
theorem dX14_feed_94 : decode cX14_feed 94 = .ok (.iconst 4, 1) := by decide +kernel
theorem dX14_feed_95 : decode cX14_feed 95 = .ok (.irem, 1) := by decide +kernel
theorem dX14_feed_96 : decode cX14_feed 96 = .ok (.imul, 1) := by decide +kernel
theorem dX14_feed_97 : decode cX14_feed 97 = .ok (.isub, 1) := by decide +kernel
theorem dX14_feed_98 : decode cX14_feed 98 = .ok (.ishr, 1) := by decide +kernel
theorem dX14_feed_99 : decode cX14_feed 99 = .ok (.i2b, 1) := by decide +kernel
theorem dX14_feed_100 : decode cX14_feed 100 = .ok (.bastore, 1) := by decide +kernel
theorem dX14_feed_101 : decode cX14_feed 101 = .ok (.aload_n 0, 1) := by decide +kernel
theorem dX14_feed_102 : decode cX14_feed 102 = .ok (.dup, 1) := by decide +kernel
theorem dX14_feed_103 : decode cX14_feed 103 = .ok (.getfield 231, 3) := by decide +kernel
theorem dX14_feed_106 : decode cX14_feed 106 = .ok (.iconst 1, 1) := by decide +kernel
theorem dX14_feed_107 : decode cX14_feed 107 = .ok (.iadd, 1) := by decide +kernel
theorem dX14_feed_108 : decode cX14_feed 108 = .ok (.putfield 231, 3) := by decide +kernel
theorem dX14_feed_111 : decode cX14_feed 111 = .ok (.iinc 6 1, 3) := by decide +kernel
theorem dX14_feed_114 : decode cX14_feed 114 = .ok (.goto (-91), 3) := by decide +kernel
theorem dX14_feed_117 : decode cX14_feed 117 = .ok (.aload_n 0, 1) := by decide +kernel
theorem dX14_feed_118 : decode cX14_feed 118 = .ok (.getfield 231, 3) := by decide +kernel
theorem dX14_feed_121 : decode cX14_feed 121 = .ok (.ireturn, 1) := by decide +kernel
theorem dX14_program_0 : decode cX14_program 0 = .ok (.aload_n 0, 1) := by decide +kernel
theorem dX14_program_1 : decode cX14_program 1 = .ok (.iconst 0, 1) := by decide +kernel
theorem dX14_program_2 : decode cX14_program 2 = .ok (.putfield 129, 3) := by decide +kernel
theorem dX14_program_5 : decode cX14_program 5 = .ok (.iload_n 1, 1) := by decide +kernel
theorem dX14_program_6 : decode cX14_program 6 = .ok (.ifCond .lt 11, 3) := by decide +kernel
theorem dX14_program_9 : decode cX14_program 9 = .ok (.iload_n 1, 1) := by decide +kernel
theorem dX14_program_10 : decode cX14_program 10 = .ok (.aload_n 0, 1) := by decide +kernel
theorem dX14_program_11 : decode cX14_program 11 = .ok (.getfield 231, 3) := by decide +kernel
theorem dX14_program_14 : decode cX14_program 14 = .ok (.if_icmp .le 9, 3) := by decide +kernel
theorem dX14_program_17 : decode cX14_program 17 = .ok (.aload_n 0, 1) := by decide +kernel
theorem dX14_program_18 : decode cX14_program 18 = .ok (.iconst 1, 1) := by decide +kernel
theorem dX14_program_19 : decode cX14_program 19 = .ok (.invokevirtual 234, 3) := by decide +kernel
theorem dX14_program_22 : decode cX14_program 22 = .ok (.ireturn, 1) := by decide +kernel
theorem dX14_program_23 : decode cX14_program 23 = .ok (.aload_n 0, 1) := by decide +kernel
theorem dX14_program_24 : decode cX14_program 24 = .ok (.iload_n 1, 1) := by decide +kernel
theorem dX14_program_25 : decode cX14_program 25 = .ok (.putfield 141, 3) := by decide +kernel
theorem dX14_program_28 : decode cX14_program 28 = .ok (.aload_n 0, 1) := by decide +kernel
theorem dX14_program_29 : decode cX14_program 29 = .ok (.iconst 0, 1) := by decide +kernel
theorem dX14_program_30 : decode cX14_program 30 = .ok (.putfield 231, 3) := by decide +kernel
theorem dX14_program_33 : decode cX14_program 33 = .ok (.aload_n 0, 1) := by decide +kernel
theorem dX14_program_34 : decode cX14_program 34 = .ok (.iconst 0, 1) := by decide +kernel
theorem dX14_program_35 : decode cX14_program 35 = .ok (.putfield 154, 3) := by decide +kernel
theorem dX14_program_38 : decode cX14_program 38 = .ok (.aload_n 0, 1) := by decide +kernel
theorem dX14_program_39 : decode cX14_program 39 = .ok (.iconst 0, 1) := by decide +kernel
theorem dX14_program_40 : decode cX14_program 40 = .ok (.putfield 237, 3) := by decide +kernel
theorem dX14_program_43 : decode cX14_program 43 = .ok (.aload_n 0, 1) := by decide +kernel
theorem dX14_program_44 : decode cX14_program 44 = .ok (.invokevirtual 240, 3) := by decide +kernel
theorem dX14_program_47 : decode cX14_program 47 = .ok (.goto 27, 3) := by decide +kernel
theorem dX14_program_50 : decode cX14_program 50 = .ok (.astore_n 2, 1) := by decide +kernel
theorem dX14_program_51 : decode cX14_program 51 = .ok (.aload_n 0, 1) := by decide +kernel
theorem dX14_program_52 : decode cX14_program 52 = .ok (.aload_n 2, 1) := by decide +kernel
theorem dX14_program_53 : decode cX14_program 53 = .ok (.getfield 135, 3) := by decide +kernel
theorem dX14_program_56 : decode cX14_program 56 = .ok (.putfield 237, 3) := by decide +kernel
theorem dX14_program_59 : decode cX14_program 59 = .ok (.aload_n 0, 1) := by decide +kernel
theorem dX14_program_60 : decode cX14_program 60 = .ok (.iconst 3, 1) := by decide +kernel
theorem dX14_program_61 : decode cX14_program 61 = .ok (.putfield 132, 3) := by decide +kernel
theorem dX14_program_64 : decode cX14_program 64 = .ok (.aload_n 0, 1) := by decide +kernel
theorem dX14_program_65 : decode cX14_program 65 = .ok (.aload_n 2, 1) := by decide +kernel
theorem dX14_program_66 : decode cX14_program 66 = .ok (.getfield 138, 3) := by decide +kernel
theorem dX14_program_69 : decode cX14_program 69 = .ok (.putfield 9, 3) := by decide +kernel
theorem dX14_program_72 : decode cX14_program 72 = .ok (.iconst (-1), 1) := by decide +kernel
theorem dX14_program_73 : decode cX14_program 73 = .ok (.ireturn, 1) := by decide +kernel
theorem dX14_program_74 : decode cX14_program 74 = .ok (.aload_n 0, 1) := by decide +kernel
theorem dX14_program_75 : decode cX14_program 75 = .ok (.getfield 16, 3) := by decide +kernel
theorem dX14_program_78 : decode cX14_program 78 = .ok (.astore_n 2, 1) := by decide +kernel
theorem dX14_program_79 : decode cX14_program 79 = .ok (.aload_n 0, 1) := by decide +kernel
theorem dX14_program_80 : decode cX14_program 80 = .ok (.aload_n 0, 1) := by decide +kernel
theorem dX14_program_81 : decode cX14_program 81 = .ok (.getfield 20, 3) := by decide +kernel
theorem dX14_program_84 : decode cX14_program 84 = .ok (.putfield 16, 3) := by decide +kernel
theorem dX14_program_87 : decode cX14_program 87 = .ok (.aload_n 0, 1) := by decide +kernel
theorem dX14_program_88 : decode cX14_program 88 = .ok (.aload_n 2, 1) := by decide +kernel
theorem dX14_program_89 : decode cX14_program 89 = .ok (.putfield 20, 3) := by decide +kernel
theorem dX14_program_92 : decode cX14_program 92 = .ok (.aload_n 0, 1) := by decide +kernel
theorem dX14_program_93 : decode cX14_program 93 = .ok (.iconst 1, 1) := by decide +kernel
theorem dX14_program_94 : decode cX14_program 94 = .ok (.putfield 243, 3) := by decide +kernel
theorem dX14_program_97 : decode cX14_program 97 = .ok (.aload_n 0, 1) := by decide +kernel
theorem dX14_program_98 : decode cX14_program 98 = .ok (.aload_n 0, 1) := by decide +kernel
theorem dX14_program_99 : decode cX14_program 99 = .ok (.getfield 16, 3) := by decide +kernel
theorem dX14_program_102 : decode cX14_program 102 = .ok (.getfield 186, 3) := by decide +kernel
theorem dX14_program_105 : decode cX14_program 105 = .ok (.invokevirtual 246, 3) := by decide +kernel
theorem dX14_program_108 : decode cX14_program 108 = .ok (.ireturn, 1) := by decide +kernel
theorem dX14_fault_0 : decode cX14_fault 0 = .ok (.aload_n 0, 1) := by decide +kernel
theorem dX14_fault_1 : decode cX14_fault 1 = .ok (.iconst 0, 1) := by decide +kernel
theorem dX14_fault_2 : decode cX14_fault 2 = .ok (.putfield 129, 3) := by decide +kernel
theorem dX14_fault_5 : decode cX14_fault 5 = .ok (.aload_n 0, 1) := by decide +kernel
theorem dX14_fault_6 : decode cX14_fault 6 = .ok (.getfield 237, 3) := by decide +kernel
theorem dX14_fault_9 : decode cX14_fault 9 = .ok (.ireturn, 1) := by decide +kernel
theorem dX14_where_0 : decode cX14_where 0 = .ok (.aload_n 0, 1) := by decide +kernel
theorem dX14_where_1 : decode cX14_where 1 = .ok (.iconst 0, 1) := by decide +kernel
theorem dX14_where_2 : decode cX14_where 2 = .ok (.putfield 129, 3) := by decide +kernel
theorem dX14_where_5 : decode cX14_where 5 = .ok (.aload_n 0, 1) := by decide +kernel
theorem dX14_where_6 : decode cX14_where 6 = .ok (.getfield 9, 3) := by decide +kernel
theorem dX14_where_9 : decode cX14_where 9 = .ok (.ireturn, 1) := by decide +kernel
theorem dX14_order_0 : decode cX14_order 0 = .ok (.aload_n 0, 1) := by decide +kernel
theorem dX14_order_1 : decode cX14_order 1 = .ok (.iconst 0, 1) := by decide +kernel
theorem dX14_order_2 : decode cX14_order 2 = .ok (.putfield 129, 3) := by decide +kernel
theorem dX14_order_5 : decode cX14_order 5 = .ok (.aload_n 0, 1) := by decide +kernel
theorem dX14_order_6 : decode cX14_order 6 = .ok (.getfield 243, 3) := by decide +kernel
theorem dX14_order_9 : decode cX14_order 9 = .ok (.ifCond .eq 18, 3) := by decide +kernel
theorem dX14_order_12 : decode cX14_order 12 = .ok (.iload_n 1, 1) := by decide +kernel
theorem dX14_order_13 : decode cX14_order 13 = .ok (.ifCond .lt 14, 3) := by decide +kernel
theorem dX14_order_16 : decode cX14_order 16 = .ok (.iload_n 1, 1) := by decide +kernel
theorem dX14_order_17 : decode cX14_order 17 = .ok (.aload_n 0, 1) := by decide +kernel
theorem dX14_order_18 : decode cX14_order 18 = .ok (.getfield 16, 3) := by decide +kernel
theorem dX14_order_21 : decode cX14_order 21 = .ok (.getfield 186, 3) := by decide +kernel
theorem dX14_order_24 : decode cX14_order 24 = .ok (.if_icmp .lt 5, 3) := by decide +kernel
theorem dX14_order_27 : decode cX14_order 27 = .ok (.iconst (-1), 1) := by decide +kernel
theorem dX14_order_28 : decode cX14_order 28 = .ok (.ireturn, 1) := by decide +kernel
theorem dX14_order_29 : decode cX14_order 29 = .ok (.iload_n 2, 1) := by decide +kernel
theorem dX14_order_30 : decode cX14_order 30 = .ok (.tableswitch 64 0 2 #[26, 36, 46], 26) := by decide +kernel
theorem dX14_order_56 : decode cX14_order 56 = .ok (.aload_n 0, 1) := by decide +kernel
theorem dX14_order_57 : decode cX14_order 57 = .ok (.getfield 16, 3) := by decide +kernel
theorem dX14_order_60 : decode cX14_order 60 = .ok (.getfield 201, 3) := by decide +kernel
theorem dX14_order_63 : decode cX14_order 63 = .ok (.iload_n 1, 1) := by decide +kernel
theorem dX14_order_64 : decode cX14_order 64 = .ok (.iaload, 1) := by decide +kernel
theorem dX14_order_65 : decode cX14_order 65 = .ok (.ireturn, 1) := by decide +kernel
theorem dX14_order_66 : decode cX14_order 66 = .ok (.aload_n 0, 1) := by decide +kernel
theorem dX14_order_67 : decode cX14_order 67 = .ok (.getfield 16, 3) := by decide +kernel
theorem dX14_order_70 : decode cX14_order 70 = .ok (.getfield 203, 3) := by decide +kernel
theorem dX14_order_73 : decode cX14_order 73 = .ok (.iload_n 1, 1) := by decide +kernel
theorem dX14_order_74 : decode cX14_order 74 = .ok (.iaload, 1) := by decide +kernel
theorem dX14_order_75 : decode cX14_order 75 = .ok (.ireturn, 1) := by decide +kernel
theorem dX14_order_76 : decode cX14_order 76 = .ok (.aload_n 0, 1) := by decide +kernel
theorem dX14_order_77 : decode cX14_order 77 = .ok (.getfield 16, 3) := by decide +kernel
theorem dX14_order_80 : decode cX14_order 80 = .ok (.getfield 192, 3) := by decide +kernel
theorem dX14_order_83 : decode cX14_order 83 = .ok (.iload_n 1, 1) := by decide +kernel
theorem dX14_order_84 : decode cX14_order 84 = .ok (.baload, 1) := by decide +kernel
theorem dX14_order_85 : decode cX14_order 85 = .ok (.ifCond .eq 7, 3) := by decide +kernel
theorem dX14_order_88 : decode cX14_order 88 = .ok (.iconst 1, 1) := by decide +kernel
theorem dX14_order_89 : decode cX14_order 89 = .ok (.goto 4, 3) := by decide +kernel
theorem dX14_order_92 : decode cX14_order 92 = .ok (.iconst 0, 1) := by decide +kernel
theorem dX14_order_93 : decode cX14_order 93 = .ok (.ireturn, 1) := by decide +kernel
theorem dX14_order_94 : decode cX14_order 94 = .ok (.iconst (-1), 1) := by decide +kernel
theorem dX14_order_95 : decode cX14_order 95 = .ok (.ireturn, 1) := by decide +kernel
theorem dX14_input_0 : decode cX14_input 0 = .ok (.aload_n 0, 1) := by decide +kernel
theorem dX14_input_1 : decode cX14_input 1 = .ok (.iconst 0, 1) := by decide +kernel
theorem dX14_input_2 : decode cX14_input 2 = .ok (.putfield 129, 3) := by decide +kernel
theorem dX14_input_5 : decode cX14_input 5 = .ok (.aload_n 0, 1) := by decide +kernel
theorem dX14_input_6 : decode cX14_input 6 = .ok (.iload_n 1, 1) := by decide +kernel
theorem dX14_input_7 : decode cX14_input 7 = .ok (.putfield 249, 3) := by decide +kernel
theorem dX14_input_10 : decode cX14_input 10 = .ok (.return_, 1) := by decide +kernel
theorem dX14_join_0 : decode cX14_join 0 = .ok (.aload_n 0, 1) := by decide +kernel
theorem dX14_join_1 : decode cX14_join 1 = .ok (.iconst 0, 1) := by decide +kernel
theorem dX14_join_2 : decode cX14_join 2 = .ok (.putfield 129, 3) := by decide +kernel
theorem dX14_join_5 : decode cX14_join 5 = .ok (.iload_n 1, 1) := by decide +kernel
theorem dX14_join_6 : decode cX14_join 6 = .ok (.iconst 0, 1) := by decide +kernel
theorem dX14_join_7 : decode cX14_join 7 = .ok (.bipush 14, 2) := by decide +kernel
theorem dX14_join_9 : decode cX14_join 9 = .ok (.invokestatic 252, 3) := by decide +kernel
theorem dX14_join_12 : decode cX14_join 12 = .ok (.ifCond .eq 13, 3) := by decide +kernel
theorem dX14_join_15 : decode cX14_join 15 = .ok (.iload_n 2, 1) := by decide +kernel
theorem dX14_join_16 : decode cX14_join 16 = .ok (.iconst 0, 1) := by decide +kernel
theorem dX14_join_17 : decode cX14_join 17 = .ok (.bipush 14, 2) := by decide +kernel
theorem dX14_join_19 : decode cX14_join 19 = .ok (.invokestatic 252, 3) := by decide +kernel
theorem dX14_join_22 : decode cX14_join 22 = .ok (.ifCond .ne 9, 3) := by decide +kernel
theorem dX14_join_25 : decode cX14_join 25 = .ok (.aload_n 0, 1) := by decide +kernel
theorem dX14_join_26 : decode cX14_join 26 = .ok (.iconst 1, 1) := by decide +kernel
theorem dX14_join_27 : decode cX14_join 27 = .ok (.invokevirtual 234, 3) := by decide +kernel
theorem dX14_join_30 : decode cX14_join 30 = .ok (.ireturn, 1) := by decide +kernel
theorem dX14_join_31 : decode cX14_join 31 = .ok (.aload_n 0, 1) := by decide +kernel
theorem dX14_join_32 : decode cX14_join 32 = .ok (.getfield 256, 3) := by decide +kernel
theorem dX14_join_35 : decode cX14_join 35 = .ok (.bipush 10, 2) := by decide +kernel
theorem dX14_join_37 : decode cX14_join 37 = .ok (.if_icmp .eq 17, 3) := by decide +kernel
theorem dX14_join_40 : decode cX14_join 40 = .ok (.aload_n 0, 1) := by decide +kernel
theorem dX14_join_41 : decode cX14_join 41 = .ok (.getfield 70, 3) := by decide +kernel
theorem dX14_join_44 : decode cX14_join 44 = .ok (.bipush 15, 2) := by decide +kernel
theorem dX14_join_46 : decode cX14_join 46 = .ok (.iload_n 1, 1) := by decide +kernel
theorem dX14_join_47 : decode cX14_join 47 = .ok (.imul, 1) := by decide +kernel
theorem dX14_join_48 : decode cX14_join 48 = .ok (.iload_n 2, 1) := by decide +kernel
theorem dX14_join_49 : decode cX14_join 49 = .ok (.iadd, 1) := by decide +kernel
theorem dX14_join_50 : decode cX14_join 50 = .ok (.baload, 1) := by decide +kernel
theorem dX14_join_51 : decode cX14_join 51 = .ok (.ifCond .eq 9, 3) := by decide +kernel
theorem dX14_join_54 : decode cX14_join 54 = .ok (.aload_n 0, 1) := by decide +kernel
theorem dX14_join_55 : decode cX14_join 55 = .ok (.iconst 2, 1) := by decide +kernel
theorem dX14_join_56 : decode cX14_join 56 = .ok (.invokevirtual 234, 3) := by decide +kernel
theorem dX14_join_59 : decode cX14_join 59 = .ok (.ireturn, 1) := by decide +kernel
theorem dX14_join_60 : decode cX14_join 60 = .ok (.aload_n 0, 1) := by decide +kernel
theorem dX14_join_61 : decode cX14_join 61 = .ok (.getfield 70, 3) := by decide +kernel
theorem dX14_join_64 : decode cX14_join 64 = .ok (.bipush 15, 2) := by decide +kernel
theorem dX14_join_66 : decode cX14_join 66 = .ok (.iload_n 1, 1) := by decide +kernel
theorem dX14_join_67 : decode cX14_join 67 = .ok (.imul, 1) := by decide +kernel
theorem dX14_join_68 : decode cX14_join 68 = .ok (.iload_n 2, 1) := by decide +kernel
theorem dX14_join_69 : decode cX14_join 69 = .ok (.iadd, 1) := by decide +kernel
theorem dX14_join_70 : decode cX14_join 70 = .ok (.iconst 1, 1) := by decide +kernel
theorem dX14_join_71 : decode cX14_join 71 = .ok (.bastore, 1) := by decide +kernel
theorem dX14_join_72 : decode cX14_join 72 = .ok (.aload_n 0, 1) := by decide +kernel
theorem dX14_join_73 : decode cX14_join 73 = .ok (.dup, 1) := by decide +kernel
theorem dX14_join_74 : decode cX14_join 74 = .ok (.getfield 256, 3) := by decide +kernel
theorem dX14_join_77 : decode cX14_join 77 = .ok (.iconst 1, 1) := by decide +kernel
theorem dX14_join_78 : decode cX14_join 78 = .ok (.iadd, 1) := by decide +kernel
theorem dX14_join_79 : decode cX14_join 79 = .ok (.putfield 256, 3) := by decide +kernel
theorem dX14_join_82 : decode cX14_join 82 = .ok (.aload_n 0, 1) := by decide +kernel
theorem dX14_join_83 : decode cX14_join 83 = .ok (.aload_n 0, 1) := by decide +kernel
theorem dX14_join_84 : decode cX14_join 84 = .ok (.getfield 256, 3) := by decide +kernel
theorem dX14_join_87 : decode cX14_join 87 = .ok (.invokevirtual 246, 3) := by decide +kernel
theorem dX14_join_90 : decode cX14_join 90 = .ok (.ireturn, 1) := by decide +kernel
theorem dX14_part_0 : decode cX14_part 0 = .ok (.aload_n 0, 1) := by decide +kernel
theorem dX14_part_1 : decode cX14_part 1 = .ok (.iconst 0, 1) := by decide +kernel
theorem dX14_part_2 : decode cX14_part 2 = .ok (.putfield 129, 3) := by decide +kernel
theorem dX14_part_5 : decode cX14_part 5 = .ok (.aload_n 0, 1) := by decide +kernel
theorem dX14_part_6 : decode cX14_part 6 = .ok (.getfield 256, 3) := by decide +kernel
theorem dX14_part_9 : decode cX14_part 9 = .ok (.istore_n 1, 1) := by decide +kernel
theorem dX14_part_10 : decode cX14_part 10 = .ok (.aload_n 0, 1) := by decide +kernel
theorem dX14_part_11 : decode cX14_part 11 = .ok (.iconst 0, 1) := by decide +kernel
theorem dX14_part_12 : decode cX14_part 12 = .ok (.putfield 256, 3) := by decide +kernel
theorem dX14_part_15 : decode cX14_part 15 = .ok (.iconst 0, 1) := by decide +kernel
theorem dX14_part_16 : decode cX14_part 16 = .ok (.istore_n 2, 1) := by decide +kernel
theorem dX14_part_17 : decode cX14_part 17 = .ok (.iload_n 2, 1) := by decide +kernel
theorem dX14_part_18 : decode cX14_part 18 = .ok (.sipush 225, 3) := by decide +kernel
theorem dX14_part_21 : decode cX14_part 21 = .ok (.if_icmp .ge 16, 3) := by decide +kernel
theorem dX14_part_24 : decode cX14_part 24 = .ok (.aload_n 0, 1) := by decide +kernel
theorem dX14_part_25 : decode cX14_part 25 = .ok (.getfield 70, 3) := by decide +kernel
theorem dX14_part_28 : decode cX14_part 28 = .ok (.iload_n 2, 1) := by decide +kernel
theorem dX14_part_29 : decode cX14_part 29 = .ok (.iconst 0, 1) := by decide +kernel
theorem dX14_part_30 : decode cX14_part 30 = .ok (.bastore, 1) := by decide +kernel
theorem dX14_part_31 : decode cX14_part 31 = .ok (.iinc 2 1, 3) := by decide +kernel
theorem dX14_part_34 : decode cX14_part 34 = .ok (.goto (-17), 3) := by decide +kernel
theorem dX14_part_37 : decode cX14_part 37 = .ok (.iload_n 1, 1) := by decide +kernel
theorem dX14_part_38 : decode cX14_part 38 = .ok (.ireturn, 1) := by decide +kernel
theorem dX14_pairs_0 : decode cX14_pairs 0 = .ok (.iconst 0, 1) := by decide +kernel
theorem dX14_pairs_1 : decode cX14_pairs 1 = .ok (.istore_n 1, 1) := by decide +kernel
theorem dX14_pairs_2 : decode cX14_pairs 2 = .ok (.aload_n 0, 1) := by decide +kernel
theorem dX14_pairs_3 : decode cX14_pairs 3 = .ok (.getfield 74, 3) := by decide +kernel
theorem dX14_pairs_6 : decode cX14_pairs 6 = .ok (.iconst 0, 1) := by decide +kernel
theorem dX14_pairs_7 : decode cX14_pairs 7 = .ok (.iconst 0, 1) := by decide +kernel
theorem dX14_pairs_8 : decode cX14_pairs 8 = .ok (.bastore, 1) := by decide +kernel
theorem dX14_pairs_9 : decode cX14_pairs 9 = .ok (.iconst 1, 1) := by decide +kernel
theorem dX14_pairs_10 : decode cX14_pairs 10 = .ok (.istore_n 2, 1) := by decide +kernel
theorem dX14_pairs_11 : decode cX14_pairs 11 = .ok (.iload_n 2, 1) := by decide +kernel
theorem dX14_pairs_12 : decode cX14_pairs 12 = .ok (.aload_n 0, 1) := by decide +kernel
theorem dX14_pairs_13 : decode cX14_pairs 13 = .ok (.getfield 16, 3) := by decide +kernel
theorem dX14_pairs_16 : decode cX14_pairs 16 = .ok (.getfield 186, 3) := by decide +kernel
theorem dX14_pairs_19 : decode cX14_pairs 19 = .ok (.if_icmp .ge 92, 3) := by decide +kernel
theorem dX14_pairs_22 : decode cX14_pairs 22 = .ok (.aload_n 0, 1) := by decide +kernel
theorem dX14_pairs_23 : decode cX14_pairs 23 = .ok (.getfield 74, 3) := by decide +kernel
theorem dX14_pairs_26 : decode cX14_pairs 26 = .ok (.iload_n 2, 1) := by decide +kernel
theorem dX14_pairs_27 : decode cX14_pairs 27 = .ok (.aload_n 0, 1) := by decide +kernel
theorem dX14_pairs_28 : decode cX14_pairs 28 = .ok (.getfield 74, 3) := by decide +kernel
theorem dX14_pairs_31 : decode cX14_pairs 31 = .ok (.iload_n 2, 1) := by decide +kernel
theorem dX14_pairs_32 : decode cX14_pairs 32 = .ok (.iconst 1, 1) := by decide +kernel
theorem dX14_pairs_33 : decode cX14_pairs 33 = .ok (.isub, 1) := by decide +kernel
theorem dX14_pairs_34 : decode cX14_pairs 34 = .ok (.baload, 1) := by decide +kernel
theorem dX14_pairs_35 : decode cX14_pairs 35 = .ok (.ifCond .ne 51, 3) := by decide +kernel
theorem dX14_pairs_38 : decode cX14_pairs 38 = .ok (.aload_n 0, 1) := by decide +kernel
theorem dX14_pairs_39 : decode cX14_pairs 39 = .ok (.getfield 16, 3) := by decide +kernel
theorem dX14_pairs_42 : decode cX14_pairs 42 = .ok (.getfield 192, 3) := by decide +kernel
theorem dX14_pairs_45 : decode cX14_pairs 45 = .ok (.iload_n 2, 1) := by decide +kernel
theorem dX14_pairs_46 : decode cX14_pairs 46 = .ok (.baload, 1) := by decide +kernel
theorem dX14_pairs_47 : decode cX14_pairs 47 = .ok (.ifCond .ne 39, 3) := by decide +kernel
theorem dX14_pairs_50 : decode cX14_pairs 50 = .ok (.aload_n 0, 1) := by decide +kernel
theorem dX14_pairs_51 : decode cX14_pairs 51 = .ok (.getfield 70, 3) := by decide +kernel
theorem dX14_pairs_54 : decode cX14_pairs 54 = .ok (.bipush 15, 2) := by decide +kernel
theorem dX14_pairs_56 : decode cX14_pairs 56 = .ok (.aload_n 0, 1) := by decide +kernel
theorem dX14_pairs_57 : decode cX14_pairs 57 = .ok (.getfield 16, 3) := by decide +kernel
theorem dX14_pairs_60 : decode cX14_pairs 60 = .ok (.getfield 201, 3) := by decide +kernel
theorem dX14_pairs_63 : decode cX14_pairs 63 = .ok (.iload_n 2, 1) := by decide +kernel
theorem dX14_pairs_64 : decode cX14_pairs 64 = .ok (.iconst 1, 1) := by decide +kernel
theorem dX14_pairs_65 : decode cX14_pairs 65 = .ok (.isub, 1) := by decide +kernel
theorem dX14_pairs_66 : decode cX14_pairs 66 = .ok (.iaload, 1) := by decide +kernel
theorem dX14_pairs_67 : decode cX14_pairs 67 = .ok (.imul, 1) := by decide +kernel
theorem dX14_pairs_68 : decode cX14_pairs 68 = .ok (.aload_n 0, 1) := by decide +kernel
theorem dX14_pairs_69 : decode cX14_pairs 69 = .ok (.getfield 16, 3) := by decide +kernel
theorem dX14_pairs_72 : decode cX14_pairs 72 = .ok (.getfield 201, 3) := by decide +kernel
theorem dX14_pairs_75 : decode cX14_pairs 75 = .ok (.iload_n 2, 1) := by decide +kernel
theorem dX14_pairs_76 : decode cX14_pairs 76 = .ok (.iaload, 1) := by decide +kernel
theorem dX14_pairs_77 : decode cX14_pairs 77 = .ok (.iadd, 1) := by decide +kernel
theorem dX14_pairs_78 : decode cX14_pairs 78 = .ok (.baload, 1) := by decide +kernel
theorem dX14_pairs_79 : decode cX14_pairs 79 = .ok (.ifCond .eq 7, 3) := by decide +kernel
theorem dX14_pairs_82 : decode cX14_pairs 82 = .ok (.iconst 1, 1) := by decide +kernel
theorem dX14_pairs_83 : decode cX14_pairs 83 = .ok (.goto 4, 3) := by decide +kernel
theorem dX14_pairs_86 : decode cX14_pairs 86 = .ok (.iconst 0, 1) := by decide +kernel
theorem dX14_pairs_87 : decode cX14_pairs 87 = .ok (.bastore, 1) := by decide +kernel
theorem dX14_pairs_88 : decode cX14_pairs 88 = .ok (.iload_n 1, 1) := by decide +kernel
theorem dX14_pairs_89 : decode cX14_pairs 89 = .ok (.aload_n 0, 1) := by decide +kernel
theorem dX14_pairs_90 : decode cX14_pairs 90 = .ok (.getfield 74, 3) := by decide +kernel
theorem dX14_pairs_93 : decode cX14_pairs 93 = .ok (.iload_n 2, 1) := by decide +kernel
theorem dX14_pairs_94 : decode cX14_pairs 94 = .ok (.baload, 1) := by decide +kernel
theorem dX14_pairs_95 : decode cX14_pairs 95 = .ok (.ifCond .eq 7, 3) := by decide +kernel
theorem dX14_pairs_98 : decode cX14_pairs 98 = .ok (.iconst 1, 1) := by decide +kernel
theorem dX14_pairs_99 : decode cX14_pairs 99 = .ok (.goto 4, 3) := by decide +kernel
theorem dX14_pairs_102 : decode cX14_pairs 102 = .ok (.iconst 0, 1) := by decide +kernel
theorem dX14_pairs_103 : decode cX14_pairs 103 = .ok (.iadd, 1) := by decide +kernel
theorem dX14_pairs_104 : decode cX14_pairs 104 = .ok (.istore_n 1, 1) := by decide +kernel
theorem dX14_pairs_105 : decode cX14_pairs 105 = .ok (.iinc 2 1, 3) := by decide +kernel
theorem dX14_pairs_108 : decode cX14_pairs 108 = .ok (.goto (-97), 3) := by decide +kernel
theorem dX14_pairs_111 : decode cX14_pairs 111 = .ok (.iload_n 1, 1) := by decide +kernel
theorem dX14_pairs_112 : decode cX14_pairs 112 = .ok (.ireturn, 1) := by decide +kernel
theorem dX14_joined_0 : decode cX14_joined 0 = .ok (.aload_n 0, 1) := by decide +kernel
theorem dX14_joined_1 : decode cX14_joined 1 = .ok (.iconst 0, 1) := by decide +kernel
theorem dX14_joined_2 : decode cX14_joined 2 = .ok (.putfield 129, 3) := by decide +kernel
theorem dX14_joined_5 : decode cX14_joined 5 = .ok (.aload_n 0, 1) := by decide +kernel
theorem dX14_joined_6 : decode cX14_joined 6 = .ok (.getfield 243, 3) := by decide +kernel
theorem dX14_joined_9 : decode cX14_joined 9 = .ok (.ifCond .eq 14, 3) := by decide +kernel
theorem dX14_joined_12 : decode cX14_joined 12 = .ok (.aload_n 0, 1) := by decide +kernel
theorem dX14_joined_13 : decode cX14_joined 13 = .ok (.aload_n 0, 1) := by decide +kernel
theorem dX14_joined_14 : decode cX14_joined 14 = .ok (.invokevirtual 259, 3) := by decide +kernel
theorem dX14_joined_17 : decode cX14_joined 17 = .ok (.invokevirtual 246, 3) := by decide +kernel
theorem dX14_joined_20 : decode cX14_joined 20 = .ok (.goto 8, 3) := by decide +kernel
theorem dX14_joined_23 : decode cX14_joined 23 = .ok (.aload_n 0, 1) := by decide +kernel
theorem dX14_joined_24 : decode cX14_joined 24 = .ok (.iconst 4, 1) := by decide +kernel
theorem dX14_joined_25 : decode cX14_joined 25 = .ok (.invokevirtual 234, 3) := by decide +kernel
theorem dX14_joined_28 : decode cX14_joined 28 = .ok (.ireturn, 1) := by decide +kernel
theorem dX14_stopped_0 : decode cX14_stopped 0 = .ok (.aload_n 0, 1) := by decide +kernel
theorem dX14_stopped_1 : decode cX14_stopped 1 = .ok (.getfield 262, 3) := by decide +kernel
theorem dX14_stopped_4 : decode cX14_stopped 4 = .ok (.getstatic 265, 3) := by decide +kernel
theorem dX14_stopped_7 : decode cX14_stopped 7 = .ok (.iload_n 1, 1) := by decide +kernel
theorem dX14_stopped_8 : decode cX14_stopped 8 = .ok (.iaload, 1) := by decide +kernel
theorem dX14_stopped_9 : decode cX14_stopped 9 = .ok (.if_icmp .ge 5, 3) := by decide +kernel
theorem dX14_stopped_12 : decode cX14_stopped 12 = .ok (.iconst 2, 1) := by decide +kernel
theorem dX14_stopped_13 : decode cX14_stopped 13 = .ok (.ireturn, 1) := by decide +kernel
theorem dX14_stopped_14 : decode cX14_stopped 14 = .ok (.aload_n 0, 1) := by decide +kernel
theorem dX14_stopped_15 : decode cX14_stopped 15 = .ok (.getfield 262, 3) := by decide +kernel
theorem dX14_stopped_18 : decode cX14_stopped 18 = .ok (.getstatic 265, 3) := by decide +kernel
theorem dX14_stopped_21 : decode cX14_stopped 21 = .ok (.iload_n 1, 1) := by decide +kernel
theorem dX14_stopped_22 : decode cX14_stopped 22 = .ok (.iaload, 1) := by decide +kernel
theorem dX14_stopped_23 : decode cX14_stopped 23 = .ok (.isub, 1) := by decide +kernel
theorem dX14_stopped_24 : decode cX14_stopped 24 = .ok (.getstatic 268, 3) := by decide +kernel
theorem dX14_stopped_27 : decode cX14_stopped 27 = .ok (.iload_n 1, 1) := by decide +kernel
theorem dX14_stopped_28 : decode cX14_stopped 28 = .ok (.iaload, 1) := by decide +kernel
theorem dX14_stopped_29 : decode cX14_stopped 29 = .ok (.iadd, 1) := by decide +kernel
theorem dX14_stopped_30 : decode cX14_stopped 30 = .ok (.bipush 32, 2) := by decide +kernel
theorem dX14_stopped_32 : decode cX14_stopped 32 = .ok (.if_icmp .le 7, 3) := by decide +kernel
theorem dX14_stopped_35 : decode cX14_stopped 35 = .ok (.iconst 3, 1) := by decide +kernel
theorem dX14_stopped_36 : decode cX14_stopped 36 = .ok (.goto 4, 3) := by decide +kernel
theorem dX14_stopped_39 : decode cX14_stopped 39 = .ok (.iconst (-1), 1) := by decide +kernel
theorem dX14_stopped_40 : decode cX14_stopped 40 = .ok (.ireturn, 1) := by decide +kernel
theorem dX14_runs_0 : decode cX14_runs 0 = .ok (.aload_n 0, 1) := by decide +kernel
theorem dX14_runs_1 : decode cX14_runs 1 = .ok (.iconst 0, 1) := by decide +kernel
theorem dX14_runs_2 : decode cX14_runs 2 = .ok (.putfield 271, 3) := by decide +kernel
theorem dX14_runs_5 : decode cX14_runs 5 = .ok (.aload_n 0, 1) := by decide +kernel
theorem dX14_runs_6 : decode cX14_runs 6 = .ok (.iconst 0, 1) := by decide +kernel
theorem dX14_runs_7 : decode cX14_runs 7 = .ok (.putfield 274, 3) := by decide +kernel
theorem dX14_runs_10 : decode cX14_runs 10 = .ok (.iconst 0, 1) := by decide +kernel
theorem dX14_runs_11 : decode cX14_runs 11 = .ok (.istore_n 2, 1) := by decide +kernel
theorem dX14_runs_12 : decode cX14_runs 12 = .ok (.iload_n 2, 1) := by decide +kernel
theorem dX14_runs_13 : decode cX14_runs 13 = .ok (.bipush 8, 2) := by decide +kernel
theorem dX14_runs_15 : decode cX14_runs 15 = .ok (.if_icmp .ge 16, 3) := by decide +kernel
theorem dX14_runs_18 : decode cX14_runs 18 = .ok (.aload_n 0, 1) := by decide +kernel
theorem dX14_runs_19 : decode cX14_runs 19 = .ok (.getfield 84, 3) := by decide +kernel
theorem dX14_runs_22 : decode cX14_runs 22 = .ok (.iload_n 2, 1) := by decide +kernel
theorem dX14_runs_23 : decode cX14_runs 23 = .ok (.iconst 0, 1) := by decide +kernel
theorem dX14_runs_24 : decode cX14_runs 24 = .ok (.iastore, 1) := by decide +kernel
theorem dX14_runs_25 : decode cX14_runs 25 = .ok (.iinc 2 1, 3) := by decide +kernel
theorem dX14_runs_28 : decode cX14_runs 28 = .ok (.goto (-16), 3) := by decide +kernel
theorem dX14_runs_31 : decode cX14_runs 31 = .ok (.aload_n 0, 1) := by decide +kernel
theorem dX14_runs_32 : decode cX14_runs 32 = .ok (.getfield 81, 3) := by decide +kernel
theorem dX14_runs_35 : decode cX14_runs 35 = .ok (.iconst 0, 1) := by decide +kernel
theorem dX14_runs_36 : decode cX14_runs 36 = .ok (.aload_n 0, 1) := by decide +kernel
theorem dX14_runs_37 : decode cX14_runs 37 = .ok (.getfield 249, 3) := by decide +kernel
theorem dX14_runs_40 : decode cX14_runs 40 = .ok (.iastore, 1) := by decide +kernel
theorem dX14_runs_41 : decode cX14_runs 41 = .ok (.aload_n 0, 1) := by decide +kernel
theorem dX14_runs_42 : decode cX14_runs 42 = .ok (.iconst 1, 1) := by decide +kernel
theorem dX14_runs_43 : decode cX14_runs 43 = .ok (.putfield 262, 3) := by decide +kernel
theorem dX14_runs_46 : decode cX14_runs 46 = .ok (.aload_n 0, 1) := by decide +kernel
theorem dX14_runs_47 : decode cX14_runs 47 = .ok (.iconst 1, 1) := by decide +kernel
theorem dX14_runs_48 : decode cX14_runs 48 = .ok (.putfield 277, 3) := by decide +kernel
theorem dX14_runs_51 : decode cX14_runs 51 = .ok (.aload_n 0, 1) := by decide +kernel
theorem dX14_runs_52 : decode cX14_runs 52 = .ok (.iconst (-1), 1) := by decide +kernel
theorem dX14_runs_53 : decode cX14_runs 53 = .ok (.putfield 280, 3) := by decide +kernel
theorem dX14_runs_56 : decode cX14_runs 56 = .ok (.iconst 0, 1) := by decide +kernel
theorem dX14_runs_57 : decode cX14_runs 57 = .ok (.istore_n 2, 1) := by decide +kernel
theorem dX14_runs_58 : decode cX14_runs 58 = .ok (.aload_n 0, 1) := by decide +kernel
theorem dX14_runs_59 : decode cX14_runs 59 = .ok (.getfield 280, 3) := by decide +kernel
theorem dX14_runs_62 : decode cX14_runs 62 = .ok (.iconst (-1), 1) := by decide +kernel
theorem dX14_runs_63 : decode cX14_runs 63 = .ok (.if_icmp .ne 129, 3) := by decide +kernel
theorem dX14_runs_66 : decode cX14_runs 66 = .ok (.aload_n 0, 1) := by decide +kernel
theorem dX14_runs_67 : decode cX14_runs 67 = .ok (.iload_n 2, 1) := by decide +kernel
theorem dX14_runs_68 : decode cX14_runs 68 = .ok (.putfield 283, 3) := by decide +kernel
theorem dX14_runs_71 : decode cX14_runs 71 = .ok (.iload_n 2, 1) := by decide +kernel
theorem dX14_runs_72 : decode cX14_runs 72 = .ok (.aload_n 0, 1) := by decide +kernel
theorem dX14_runs_73 : decode cX14_runs 73 = .ok (.getfield 16, 3) := by decide +kernel
theorem dX14_runs_76 : decode cX14_runs 76 = .ok (.getfield 186, 3) := by decide +kernel
theorem dX14_runs_79 : decode cX14_runs 79 = .ok (.if_icmp .ne 9, 3) := by decide +kernel
theorem dX14_runs_82 : decode cX14_runs 82 = .ok (.aload_n 0, 1) := by decide +kernel
theorem dX14_runs_83 : decode cX14_runs 83 = .ok (.iconst 4, 1) := by decide +kernel
theorem dX14_runs_84 : decode cX14_runs 84 = .ok (.putfield 280, 3) := by decide +kernel
theorem dX14_runs_87 : decode cX14_runs 87 = .ok (.return_, 1) := by decide +kernel
theorem dX14_runs_88 : decode cX14_runs 88 = .ok (.aload_n 0, 1) := by decide +kernel
theorem dX14_runs_89 : decode cX14_runs 89 = .ok (.getfield 271, 3) := by decide +kernel
theorem dX14_runs_92 : decode cX14_runs 92 = .ok (.iload_n 1, 1) := by decide +kernel
theorem dX14_runs_93 : decode cX14_runs 93 = .ok (.if_icmp .ne 9, 3) := by decide +kernel
theorem dX14_runs_96 : decode cX14_runs 96 = .ok (.aload_n 0, 1) := by decide +kernel
theorem dX14_runs_97 : decode cX14_runs 97 = .ok (.iconst 1, 1) := by decide +kernel
theorem dX14_runs_98 : decode cX14_runs 98 = .ok (.putfield 280, 3) := by decide +kernel
theorem dX14_runs_101 : decode cX14_runs 101 = .ok (.return_, 1) := by decide +kernel
theorem dX14_runs_102 : decode cX14_runs 102 = .ok (.aload_n 0, 1) := by decide +kernel
theorem dX14_runs_103 : decode cX14_runs 103 = .ok (.aload_n 0, 1) := by decide +kernel
theorem dX14_runs_104 : decode cX14_runs 104 = .ok (.aload_n 0, 1) := by decide +kernel
theorem dX14_runs_105 : decode cX14_runs 105 = .ok (.getfield 16, 3) := by decide +kernel
theorem dX14_runs_108 : decode cX14_runs 108 = .ok (.getfield 201, 3) := by decide +kernel
theorem dX14_runs_111 : decode cX14_runs 111 = .ok (.iload_n 2, 1) := by decide +kernel
theorem dX14_runs_112 : decode cX14_runs 112 = .ok (.iaload, 1) := by decide +kernel
theorem dX14_runs_113 : decode cX14_runs 113 = .ok (.invokevirtual 286, 3) := by decide +kernel
theorem dX14_runs_116 : decode cX14_runs 116 = .ok (.putfield 280, 3) := by decide +kernel
theorem dX14_runs_119 : decode cX14_runs 119 = .ok (.aload_n 0, 1) := by decide +kernel
theorem dX14_runs_120 : decode cX14_runs 120 = .ok (.getfield 280, 3) := by decide +kernel
theorem dX14_runs_123 : decode cX14_runs 123 = .ok (.iconst (-1), 1) := by decide +kernel
theorem dX14_runs_124 : decode cX14_runs 124 = .ok (.if_icmp .eq 4, 3) := by decide +kernel
theorem dX14_runs_127 : decode cX14_runs 127 = .ok (.return_, 1) := by decide +kernel
theorem dX14_runs_128 : decode cX14_runs 128 = .ok (.aload_n 0, 1) := by decide +kernel
theorem dX14_runs_129 : decode cX14_runs 129 = .ok (.getfield 77, 3) := by decide +kernel
theorem dX14_runs_132 : decode cX14_runs 132 = .ok (.aload_n 0, 1) := by decide +kernel
theorem dX14_runs_133 : decode cX14_runs 133 = .ok (.getfield 271, 3) := by decide +kernel
theorem dX14_runs_136 : decode cX14_runs 136 = .ok (.iload_n 2, 1) := by decide +kernel
theorem dX14_runs_137 : decode cX14_runs 137 = .ok (.iastore, 1) := by decide +kernel
theorem dX14_runs_138 : decode cX14_runs 138 = .ok (.aload_n 0, 1) := by decide +kernel
theorem dX14_runs_139 : decode cX14_runs 139 = .ok (.dup, 1) := by decide +kernel
theorem dX14_runs_140 : decode cX14_runs 140 = .ok (.getfield 271, 3) := by decide +kernel
theorem dX14_runs_143 : decode cX14_runs 143 = .ok (.iconst 1, 1) := by decide +kernel
theorem dX14_runs_144 : decode cX14_runs 144 = .ok (.iadd, 1) := by decide +kernel
theorem dX14_runs_145 : decode cX14_runs 145 = .ok (.putfield 271, 3) := by decide +kernel
theorem dX14_runs_148 : decode cX14_runs 148 = .ok (.aload_n 0, 1) := by decide +kernel
theorem dX14_runs_149 : decode cX14_runs 149 = .ok (.getfield 16, 3) := by decide +kernel
theorem dX14_runs_152 : decode cX14_runs 152 = .ok (.getfield 201, 3) := by decide +kernel
theorem dX14_runs_155 : decode cX14_runs 155 = .ok (.iload_n 2, 1) := by decide +kernel
theorem dX14_runs_156 : decode cX14_runs 156 = .ok (.iaload, 1) := by decide +kernel
theorem dX14_runs_157 : decode cX14_runs 157 = .ok (.bipush 14, 2) := by decide +kernel
theorem dX14_runs_159 : decode cX14_runs 159 = .ok (.if_icmp .ne 9, 3) := by decide +kernel
theorem dX14_runs_162 : decode cX14_runs 162 = .ok (.aload_n 0, 1) := by decide +kernel
theorem dX14_runs_163 : decode cX14_runs 163 = .ok (.iconst 0, 1) := by decide +kernel
theorem dX14_runs_164 : decode cX14_runs 164 = .ok (.putfield 280, 3) := by decide +kernel
theorem dX14_runs_167 : decode cX14_runs 167 = .ok (.return_, 1) := by decide +kernel
theorem dX14_runs_168 : decode cX14_runs 168 = .ok (.aload_n 0, 1) := by decide +kernel
theorem dX14_runs_169 : decode cX14_runs 169 = .ok (.iload_n 2, 1) := by decide +kernel
theorem dX14_runs_170 : decode cX14_runs 170 = .ok (.invokevirtual 289, 3) := by decide +kernel
theorem dX14_runs_173 : decode cX14_runs 173 = .ok (.istore_n 2, 1) := by decide +kernel
theorem dX14_runs_174 : decode cX14_runs 174 = .ok (.aload_n 0, 1) := by decide +kernel
theorem dX14_runs_175 : decode cX14_runs 175 = .ok (.aload_n 0, 1) := by decide +kernel
theorem dX14_runs_176 : decode cX14_runs 176 = .ok (.getfield 277, 3) := by decide +kernel
theorem dX14_runs_179 : decode cX14_runs 179 = .ok (.aload_n 0, 1) := by decide +kernel
theorem dX14_runs_180 : decode cX14_runs 180 = .ok (.getfield 262, 3) := by decide +kernel
theorem dX14_runs_183 : decode cX14_runs 183 = .ok (.invokestatic 292, 3) := by decide +kernel
theorem dX14_runs_186 : decode cX14_runs 186 = .ok (.putfield 277, 3) := by decide +kernel
theorem dX14_runs_189 : decode cX14_runs 189 = .ok (.goto (-131), 3) := by decide +kernel
theorem dX14_runs_192 : decode cX14_runs 192 = .ok (.return_, 1) := by decide +kernel
theorem dX14_does_0 : decode cX14_does 0 = .ok (.aload_n 0, 1) := by decide +kernel
theorem dX14_does_1 : decode cX14_does 1 = .ok (.getfield 16, 3) := by decide +kernel
theorem dX14_does_4 : decode cX14_does 4 = .ok (.getfield 203, 3) := by decide +kernel
theorem dX14_does_7 : decode cX14_does 7 = .ok (.iload_n 1, 1) := by decide +kernel
theorem dX14_does_8 : decode cX14_does 8 = .ok (.iaload, 1) := by decide +kernel
theorem dX14_does_9 : decode cX14_does 9 = .ok (.istore_n 2, 1) := by decide +kernel
theorem dX14_does_10 : decode cX14_does 10 = .ok (.aload_n 0, 1) := by decide +kernel
theorem dX14_does_11 : decode cX14_does 11 = .ok (.getfield 262, 3) := by decide +kernel
theorem dX14_does_14 : decode cX14_does 14 = .ok (.ifCond .le 17, 3) := by decide +kernel
theorem dX14_does_17 : decode cX14_does 17 = .ok (.aload_n 0, 1) := by decide +kernel
theorem dX14_does_18 : decode cX14_does 18 = .ok (.getfield 81, 3) := by decide +kernel
theorem dX14_does_21 : decode cX14_does 21 = .ok (.aload_n 0, 1) := by decide +kernel
theorem dX14_does_22 : decode cX14_does 22 = .ok (.getfield 262, 3) := by decide +kernel
theorem dX14_does_25 : decode cX14_does 25 = .ok (.iconst 1, 1) := by decide +kernel
theorem dX14_does_26 : decode cX14_does 26 = .ok (.isub, 1) := by decide +kernel
theorem dX14_does_27 : decode cX14_does 27 = .ok (.iaload, 1) := by decide +kernel
theorem dX14_does_28 : decode cX14_does 28 = .ok (.goto 4, 3) := by decide +kernel
theorem dX14_does_31 : decode cX14_does 31 = .ok (.iconst 0, 1) := by decide +kernel
theorem dX14_does_32 : decode cX14_does 32 = .ok (.istore_n 3, 1) := by decide +kernel
theorem dX14_does_33 : decode cX14_does 33 = .ok (.aload_n 0, 1) := by decide +kernel
theorem dX14_does_34 : decode cX14_does 34 = .ok (.getfield 262, 3) := by decide +kernel
theorem dX14_does_37 : decode cX14_does 37 = .ok (.iconst 1, 1) := by decide +kernel
theorem dX14_does_38 : decode cX14_does 38 = .ok (.if_icmp .le 17, 3) := by decide +kernel
theorem dX14_does_41 : decode cX14_does 41 = .ok (.aload_n 0, 1) := by decide +kernel
theorem dX14_does_42 : decode cX14_does 42 = .ok (.getfield 81, 3) := by decide +kernel
theorem dX14_does_45 : decode cX14_does 45 = .ok (.aload_n 0, 1) := by decide +kernel
theorem dX14_does_46 : decode cX14_does 46 = .ok (.getfield 262, 3) := by decide +kernel
theorem dX14_does_49 : decode cX14_does 49 = .ok (.iconst 2, 1) := by decide +kernel
theorem dX14_does_50 : decode cX14_does 50 = .ok (.isub, 1) := by decide +kernel
theorem dX14_does_51 : decode cX14_does 51 = .ok (.iaload, 1) := by decide +kernel
theorem dX14_does_52 : decode cX14_does 52 = .ok (.goto 4, 3) := by decide +kernel
theorem dX14_does_55 : decode cX14_does 55 = .ok (.iconst 0, 1) := by decide +kernel
theorem dX14_does_56 : decode cX14_does 56 = .ok (.istore 4, 2) := by decide +kernel
theorem dX14_does_58 : decode cX14_does 58 = .ok (.aload_n 0, 1) := by decide +kernel
theorem dX14_does_59 : decode cX14_does 59 = .ok (.dup, 1) := by decide +kernel
theorem dX14_does_60 : decode cX14_does 60 = .ok (.getfield 262, 3) := by decide +kernel
theorem dX14_does_63 : decode cX14_does 63 = .ok (.getstatic 268, 3) := by decide +kernel
theorem dX14_does_66 : decode cX14_does 66 = .ok (.aload_n 0, 1) := by decide +kernel
theorem dX14_does_67 : decode cX14_does 67 = .ok (.getfield 16, 3) := by decide +kernel
theorem dX14_does_70 : decode cX14_does 70 = .ok (.getfield 201, 3) := by decide +kernel
theorem dX14_does_73 : decode cX14_does 73 = .ok (.iload_n 1, 1) := by decide +kernel
theorem dX14_does_74 : decode cX14_does 74 = .ok (.iaload, 1) := by decide +kernel
theorem dX14_does_75 : decode cX14_does 75 = .ok (.iaload, 1) := by decide +kernel
theorem dX14_does_76 : decode cX14_does 76 = .ok (.getstatic 265, 3) := by decide +kernel
theorem dX14_does_79 : decode cX14_does 79 = .ok (.aload_n 0, 1) := by decide +kernel
theorem dX14_does_80 : decode cX14_does 80 = .ok (.getfield 16, 3) := by decide +kernel
theorem dX14_does_83 : decode cX14_does 83 = .ok (.getfield 201, 3) := by decide +kernel
theorem dX14_does_86 : decode cX14_does 86 = .ok (.iload_n 1, 1) := by decide +kernel
theorem dX14_does_87 : decode cX14_does 87 = .ok (.iaload, 1) := by decide +kernel
theorem dX14_does_88 : decode cX14_does 88 = .ok (.iaload, 1) := by decide +kernel
theorem dX14_does_89 : decode cX14_does 89 = .ok (.isub, 1) := by decide +kernel
theorem dX14_does_90 : decode cX14_does 90 = .ok (.iadd, 1) := by decide +kernel
theorem dX14_does_91 : decode cX14_does 91 = .ok (.putfield 262, 3) := by decide +kernel
theorem dX14_does_94 : decode cX14_does 94 = .ok (.aload_n 0, 1) := by decide +kernel
theorem dX14_does_95 : decode cX14_does 95 = .ok (.getfield 16, 3) := by decide +kernel
theorem dX14_does_98 : decode cX14_does 98 = .ok (.getfield 201, 3) := by decide +kernel
theorem dX14_does_101 : decode cX14_does 101 = .ok (.iload_n 1, 1) := by decide +kernel
theorem dX14_does_102 : decode cX14_does 102 = .ok (.iaload, 1) := by decide +kernel
theorem dX14_does_103 : decode cX14_does 103 = .ok (.tableswitch 298 0 13 #[69, 298, 84, 99, 127, 143, 161, 179, 197, 222, 242, 252, 254, 266], 69) := by decide +kernel
theorem dX14_does_172 : decode cX14_does 172 = .ok (.aload_n 0, 1) := by decide +kernel
theorem dX14_does_173 : decode cX14_does 173 = .ok (.getfield 81, 3) := by decide +kernel
theorem dX14_does_176 : decode cX14_does 176 = .ok (.aload_n 0, 1) := by decide +kernel
theorem dX14_does_177 : decode cX14_does 177 = .ok (.getfield 262, 3) := by decide +kernel
theorem dX14_does_180 : decode cX14_does 180 = .ok (.iconst 1, 1) := by decide +kernel
theorem dX14_does_181 : decode cX14_does 181 = .ok (.isub, 1) := by decide +kernel
theorem dX14_does_182 : decode cX14_does 182 = .ok (.iload_n 2, 1) := by decide +kernel
theorem dX14_does_183 : decode cX14_does 183 = .ok (.iastore, 1) := by decide +kernel
theorem dX14_does_184 : decode cX14_does 184 = .ok (.goto 217, 3) := by decide +kernel
theorem dX14_does_187 : decode cX14_does 187 = .ok (.aload_n 0, 1) := by decide +kernel
theorem dX14_does_188 : decode cX14_does 188 = .ok (.getfield 81, 3) := by decide +kernel
theorem dX14_does_191 : decode cX14_does 191 = .ok (.aload_n 0, 1) := by decide +kernel
theorem dX14_does_192 : decode cX14_does 192 = .ok (.getfield 262, 3) := by decide +kernel
theorem dX14_does_195 : decode cX14_does 195 = .ok (.iconst 1, 1) := by decide +kernel
theorem dX14_does_196 : decode cX14_does 196 = .ok (.isub, 1) := by decide +kernel
theorem dX14_does_197 : decode cX14_does 197 = .ok (.iload_n 3, 1) := by decide +kernel
theorem dX14_does_198 : decode cX14_does 198 = .ok (.iastore, 1) := by decide +kernel
theorem dX14_does_199 : decode cX14_does 199 = .ok (.goto 202, 3) := by decide +kernel
theorem dX14_does_202 : decode cX14_does 202 = .ok (.aload_n 0, 1) := by decide +kernel
theorem dX14_does_203 : decode cX14_does 203 = .ok (.getfield 81, 3) := by decide +kernel
theorem dX14_does_206 : decode cX14_does 206 = .ok (.aload_n 0, 1) := by decide +kernel
theorem dX14_does_207 : decode cX14_does 207 = .ok (.getfield 262, 3) := by decide +kernel
theorem dX14_does_210 : decode cX14_does 210 = .ok (.iconst 1, 1) := by decide +kernel
theorem dX14_does_211 : decode cX14_does 211 = .ok (.isub, 1) := by decide +kernel
theorem dX14_does_212 : decode cX14_does 212 = .ok (.iload 4, 2) := by decide +kernel
theorem dX14_does_214 : decode cX14_does 214 = .ok (.iastore, 1) := by decide +kernel
theorem dX14_does_215 : decode cX14_does 215 = .ok (.aload_n 0, 1) := by decide +kernel
theorem dX14_does_216 : decode cX14_does 216 = .ok (.getfield 81, 3) := by decide +kernel
theorem dX14_does_219 : decode cX14_does 219 = .ok (.aload_n 0, 1) := by decide +kernel
theorem dX14_does_220 : decode cX14_does 220 = .ok (.getfield 262, 3) := by decide +kernel
theorem dX14_does_223 : decode cX14_does 223 = .ok (.iconst 2, 1) := by decide +kernel
theorem dX14_does_224 : decode cX14_does 224 = .ok (.isub, 1) := by decide +kernel
theorem dX14_does_225 : decode cX14_does 225 = .ok (.iload_n 3, 1) := by decide +kernel
theorem dX14_does_226 : decode cX14_does 226 = .ok (.iastore, 1) := by decide +kernel
theorem dX14_does_227 : decode cX14_does 227 = .ok (.goto 174, 3) := by decide +kernel
theorem dX14_does_230 : decode cX14_does 230 = .ok (.aload_n 0, 1) := by decide +kernel
theorem dX14_does_231 : decode cX14_does 231 = .ok (.getfield 81, 3) := by decide +kernel
theorem dX14_does_234 : decode cX14_does 234 = .ok (.aload_n 0, 1) := by decide +kernel
theorem dX14_does_235 : decode cX14_does 235 = .ok (.getfield 262, 3) := by decide +kernel
theorem dX14_does_238 : decode cX14_does 238 = .ok (.iconst 1, 1) := by decide +kernel
theorem dX14_does_239 : decode cX14_does 239 = .ok (.isub, 1) := by decide +kernel
theorem dX14_does_240 : decode cX14_does 240 = .ok (.iload 4, 2) := by decide +kernel
theorem dX14_does_242 : decode cX14_does 242 = .ok (.iastore, 1) := by decide +kernel
theorem dX14_does_243 : decode cX14_does 243 = .ok (.goto 158, 3) := by decide +kernel
theorem dX14_does_246 : decode cX14_does 246 = .ok (.aload_n 0, 1) := by decide +kernel
theorem dX14_does_247 : decode cX14_does 247 = .ok (.getfield 81, 3) := by decide +kernel
theorem dX14_does_250 : decode cX14_does 250 = .ok (.aload_n 0, 1) := by decide +kernel
theorem dX14_does_251 : decode cX14_does 251 = .ok (.getfield 262, 3) := by decide +kernel
theorem dX14_does_254 : decode cX14_does 254 = .ok (.iconst 1, 1) := by decide +kernel
theorem dX14_does_255 : decode cX14_does 255 = .ok (.isub, 1) := by decide +kernel
theorem dX14_does_256 : decode cX14_does 256 = .ok (.iload 4, 2) := by decide +kernel
theorem dX14_does_258 : decode cX14_does 258 = .ok (.iload_n 3, 1) := by decide +kernel
theorem dX14_does_259 : decode cX14_does 259 = .ok (.iadd, 1) := by decide +kernel
theorem dX14_does_260 : decode cX14_does 260 = .ok (.iastore, 1) := by decide +kernel
theorem dX14_does_261 : decode cX14_does 261 = .ok (.goto 140, 3) := by decide +kernel
theorem dX14_does_264 : decode cX14_does 264 = .ok (.aload_n 0, 1) := by decide +kernel
theorem dX14_does_265 : decode cX14_does 265 = .ok (.getfield 81, 3) := by decide +kernel
theorem dX14_does_268 : decode cX14_does 268 = .ok (.aload_n 0, 1) := by decide +kernel
theorem dX14_does_269 : decode cX14_does 269 = .ok (.getfield 262, 3) := by decide +kernel
theorem dX14_does_272 : decode cX14_does 272 = .ok (.iconst 1, 1) := by decide +kernel
theorem dX14_does_273 : decode cX14_does 273 = .ok (.isub, 1) := by decide +kernel
theorem dX14_does_274 : decode cX14_does 274 = .ok (.iload 4, 2) := by decide +kernel
theorem dX14_does_276 : decode cX14_does 276 = .ok (.iload_n 3, 1) := by decide +kernel
theorem dX14_does_277 : decode cX14_does 277 = .ok (.isub, 1) := by decide +kernel
theorem dX14_does_278 : decode cX14_does 278 = .ok (.iastore, 1) := by decide +kernel
theorem dX14_does_279 : decode cX14_does 279 = .ok (.goto 122, 3) := by decide +kernel
theorem dX14_does_282 : decode cX14_does 282 = .ok (.aload_n 0, 1) := by decide +kernel
theorem dX14_does_283 : decode cX14_does 283 = .ok (.getfield 81, 3) := by decide +kernel
theorem dX14_does_286 : decode cX14_does 286 = .ok (.aload_n 0, 1) := by decide +kernel
theorem dX14_does_287 : decode cX14_does 287 = .ok (.getfield 262, 3) := by decide +kernel
theorem dX14_does_290 : decode cX14_does 290 = .ok (.iconst 1, 1) := by decide +kernel
theorem dX14_does_291 : decode cX14_does 291 = .ok (.isub, 1) := by decide +kernel
theorem dX14_does_292 : decode cX14_does 292 = .ok (.iload 4, 2) := by decide +kernel
theorem dX14_does_294 : decode cX14_does 294 = .ok (.iload_n 3, 1) := by decide +kernel
theorem dX14_does_295 : decode cX14_does 295 = .ok (.imul, 1) := by decide +kernel
theorem dX14_does_296 : decode cX14_does 296 = .ok (.iastore, 1) := by decide +kernel
theorem dX14_does_297 : decode cX14_does 297 = .ok (.goto 104, 3) := by decide +kernel
theorem dX14_does_300 : decode cX14_does 300 = .ok (.aload_n 0, 1) := by decide +kernel
theorem dX14_does_301 : decode cX14_does 301 = .ok (.getfield 81, 3) := by decide +kernel
theorem dX14_does_304 : decode cX14_does 304 = .ok (.aload_n 0, 1) := by decide +kernel
theorem dX14_does_305 : decode cX14_does 305 = .ok (.getfield 262, 3) := by decide +kernel
theorem dX14_does_308 : decode cX14_does 308 = .ok (.iconst 1, 1) := by decide +kernel
theorem dX14_does_309 : decode cX14_does 309 = .ok (.isub, 1) := by decide +kernel
theorem dX14_does_310 : decode cX14_does 310 = .ok (.iload 4, 2) := by decide +kernel
theorem dX14_does_312 : decode cX14_does 312 = .ok (.iload_n 3, 1) := by decide +kernel
theorem dX14_does_313 : decode cX14_does 313 = .ok (.if_icmp .ge 7, 3) := by decide +kernel
theorem dX14_does_316 : decode cX14_does 316 = .ok (.iconst 1, 1) := by decide +kernel
theorem dX14_does_317 : decode cX14_does 317 = .ok (.goto 4, 3) := by decide +kernel
theorem dX14_does_320 : decode cX14_does 320 = .ok (.iconst 0, 1) := by decide +kernel
theorem dX14_does_321 : decode cX14_does 321 = .ok (.iastore, 1) := by decide +kernel
theorem dX14_does_322 : decode cX14_does 322 = .ok (.goto 79, 3) := by decide +kernel
theorem dX14_does_325 : decode cX14_does 325 = .ok (.aload_n 0, 1) := by decide +kernel
theorem dX14_does_326 : decode cX14_does 326 = .ok (.getfield 81, 3) := by decide +kernel
theorem dX14_does_329 : decode cX14_does 329 = .ok (.aload_n 0, 1) := by decide +kernel
theorem dX14_does_330 : decode cX14_does 330 = .ok (.getfield 262, 3) := by decide +kernel
theorem dX14_does_333 : decode cX14_does 333 = .ok (.iconst 1, 1) := by decide +kernel
theorem dX14_does_334 : decode cX14_does 334 = .ok (.isub, 1) := by decide +kernel
theorem dX14_does_335 : decode cX14_does 335 = .ok (.aload_n 0, 1) := by decide +kernel
theorem dX14_does_336 : decode cX14_does 336 = .ok (.getfield 84, 3) := by decide +kernel
theorem dX14_does_339 : decode cX14_does 339 = .ok (.iload_n 2, 1) := by decide +kernel
theorem dX14_does_340 : decode cX14_does 340 = .ok (.iaload, 1) := by decide +kernel
theorem dX14_does_341 : decode cX14_does 341 = .ok (.iastore, 1) := by decide +kernel
theorem dX14_does_342 : decode cX14_does 342 = .ok (.goto 59, 3) := by decide +kernel
theorem dX14_does_345 : decode cX14_does 345 = .ok (.aload_n 0, 1) := by decide +kernel
theorem dX14_does_346 : decode cX14_does 346 = .ok (.getfield 84, 3) := by decide +kernel
theorem dX14_does_349 : decode cX14_does 349 = .ok (.iload_n 2, 1) := by decide +kernel
theorem dX14_does_350 : decode cX14_does 350 = .ok (.iload_n 3, 1) := by decide +kernel
theorem dX14_does_351 : decode cX14_does 351 = .ok (.iastore, 1) := by decide +kernel
theorem dX14_does_352 : decode cX14_does 352 = .ok (.goto 49, 3) := by decide +kernel
theorem dX14_does_355 : decode cX14_does 355 = .ok (.iload_n 2, 1) := by decide +kernel
theorem dX14_does_356 : decode cX14_does 356 = .ok (.ireturn, 1) := by decide +kernel
theorem dX14_does_357 : decode cX14_does 357 = .ok (.iload_n 3, 1) := by decide +kernel
theorem dX14_does_358 : decode cX14_does 358 = .ok (.ifCond .ne 7, 3) := by decide +kernel
theorem dX14_does_361 : decode cX14_does 361 = .ok (.iload_n 2, 1) := by decide +kernel
theorem dX14_does_362 : decode cX14_does 362 = .ok (.goto 6, 3) := by decide +kernel
theorem dX14_does_365 : decode cX14_does 365 = .ok (.iload_n 1, 1) := by decide +kernel
theorem dX14_does_366 : decode cX14_does 366 = .ok (.iconst 1, 1) := by decide +kernel
theorem dX14_does_367 : decode cX14_does 367 = .ok (.iadd, 1) := by decide +kernel
theorem dX14_does_368 : decode cX14_does 368 = .ok (.ireturn, 1) := by decide +kernel
theorem dX14_does_369 : decode cX14_does 369 = .ok (.aload_n 0, 1) := by decide +kernel
theorem dX14_does_370 : decode cX14_does 370 = .ok (.getfield 274, 3) := by decide +kernel
theorem dX14_does_373 : decode cX14_does 373 = .ok (.bipush 60, 2) := by decide +kernel
theorem dX14_does_375 : decode cX14_does 375 = .ok (.if_icmp .ge 13, 3) := by decide +kernel
theorem dX14_does_378 : decode cX14_does 378 = .ok (.aload_n 0, 1) := by decide +kernel
theorem dX14_does_379 : decode cX14_does 379 = .ok (.getfield 87, 3) := by decide +kernel
theorem dX14_does_382 : decode cX14_does 382 = .ok (.aload_n 0, 1) := by decide +kernel
theorem dX14_does_383 : decode cX14_does 383 = .ok (.getfield 274, 3) := by decide +kernel
theorem dX14_does_386 : decode cX14_does 386 = .ok (.iload_n 3, 1) := by decide +kernel
theorem dX14_does_387 : decode cX14_does 387 = .ok (.iastore, 1) := by decide +kernel
theorem dX14_does_388 : decode cX14_does 388 = .ok (.aload_n 0, 1) := by decide +kernel
theorem dX14_does_389 : decode cX14_does 389 = .ok (.dup, 1) := by decide +kernel
theorem dX14_does_390 : decode cX14_does 390 = .ok (.getfield 274, 3) := by decide +kernel
theorem dX14_does_393 : decode cX14_does 393 = .ok (.iconst 1, 1) := by decide +kernel
theorem dX14_does_394 : decode cX14_does 394 = .ok (.iadd, 1) := by decide +kernel
theorem dX14_does_395 : decode cX14_does 395 = .ok (.putfield 274, 3) := by decide +kernel
theorem dX14_does_398 : decode cX14_does 398 = .ok (.goto 3, 3) := by decide +kernel
theorem dX14_does_401 : decode cX14_does 401 = .ok (.iload_n 1, 1) := by decide +kernel
theorem dX14_does_402 : decode cX14_does 402 = .ok (.iconst 1, 1) := by decide +kernel
theorem dX14_does_403 : decode cX14_does 403 = .ok (.iadd, 1) := by decide +kernel
theorem dX14_does_404 : decode cX14_does 404 = .ok (.ireturn, 1) := by decide +kernel
theorem dX14_work_0 : decode cX14_work 0 = .ok (.iload_n 0, 1) := by decide +kernel
theorem dX14_work_1 : decode cX14_work 1 = .ok (.bipush 7, 2) := by decide +kernel
theorem dX14_work_3 : decode cX14_work 3 = .ok (.if_icmp .ne 7, 3) := by decide +kernel
theorem dX14_work_6 : decode cX14_work 6 = .ok (.iconst 3, 1) := by decide +kernel
theorem dX14_work_7 : decode cX14_work 7 = .ok (.goto 4, 3) := by decide +kernel
theorem dX14_work_10 : decode cX14_work 10 = .ok (.iconst 1, 1) := by decide +kernel
theorem dX14_work_11 : decode cX14_work 11 = .ok (.ireturn, 1) := by decide +kernel
theorem dX14_base_0 : decode cX14_base 0 = .ok (.iload_n 0, 1) := by decide +kernel
theorem dX14_base_1 : decode cX14_base 1 = .ok (.invokestatic 298, 3) := by decide +kernel
theorem dX14_base_4 : decode cX14_base 4 = .ok (.getstatic 265, 3) := by decide +kernel
theorem dX14_base_7 : decode cX14_base 7 = .ok (.iload_n 0, 1) := by decide +kernel
theorem dX14_base_8 : decode cX14_base 8 = .ok (.iaload, 1) := by decide +kernel
theorem dX14_base_9 : decode cX14_base 9 = .ok (.iadd, 1) := by decide +kernel
theorem dX14_base_10 : decode cX14_base 10 = .ok (.getstatic 268, 3) := by decide +kernel
theorem dX14_base_13 : decode cX14_base 13 = .ok (.iload_n 0, 1) := by decide +kernel
theorem dX14_base_14 : decode cX14_base 14 = .ok (.iaload, 1) := by decide +kernel
theorem dX14_base_15 : decode cX14_base 15 = .ok (.iadd, 1) := by decide +kernel
theorem dX14_base_16 : decode cX14_base 16 = .ok (.ireturn, 1) := by decide +kernel
theorem dX14_costOf_0 : decode cX14_costOf 0 = .ok (.iload_n 1, 1) := by decide +kernel
theorem dX14_costOf_1 : decode cX14_costOf 1 = .ok (.iconst 4, 1) := by decide +kernel
theorem dX14_costOf_2 : decode cX14_costOf 2 = .ok (.if_icmp .ne 8, 3) := by decide +kernel
theorem dX14_costOf_5 : decode cX14_costOf 5 = .ok (.aload_n 0, 1) := by decide +kernel
theorem dX14_costOf_6 : decode cX14_costOf 6 = .ok (.invokevirtual 301, 3) := by decide +kernel
theorem dX14_costOf_9 : decode cX14_costOf 9 = .ok (.ireturn, 1) := by decide +kernel
theorem dX14_costOf_10 : decode cX14_costOf 10 = .ok (.iconst 0, 1) := by decide +kernel
theorem dX14_costOf_11 : decode cX14_costOf 11 = .ok (.istore_n 2, 1) := by decide +kernel
theorem dX14_costOf_12 : decode cX14_costOf 12 = .ok (.iconst 0, 1) := by decide +kernel
theorem dX14_costOf_13 : decode cX14_costOf 13 = .ok (.istore_n 3, 1) := by decide +kernel
theorem dX14_costOf_14 : decode cX14_costOf 14 = .ok (.iload_n 1, 1) := by decide +kernel
theorem dX14_costOf_15 : decode cX14_costOf 15 = .ok (.iconst 2, 1) := by decide +kernel
theorem dX14_costOf_16 : decode cX14_costOf 16 = .ok (.if_icmp .ne 9, 3) := by decide +kernel
