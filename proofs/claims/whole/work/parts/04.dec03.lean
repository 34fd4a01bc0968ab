theorem dX11_order_44 : decode cX11_order 44 = .ok (.aload_n 0, 1) := by decide +kernel
theorem dX11_order_45 : decode cX11_order 45 = .ok (.getfield 73, 3) := by decide +kernel
theorem dX11_order_48 : decode cX11_order 48 = .ok (.iload_n 1, 1) := by decide +kernel
theorem dX11_order_49 : decode cX11_order 49 = .ok (.invokevirtual 116, 3) := by decide +kernel
theorem dX11_order_52 : decode cX11_order 52 = .ok (.getfield 120, 3) := by decide +kernel
theorem dX11_order_55 : decode cX11_order 55 = .ok (.ireturn, 1) := by decide +kernel
theorem dX11_order_56 : decode cX11_order 56 = .ok (.aload_n 0, 1) := by decide +kernel
theorem dX11_order_57 : decode cX11_order 57 = .ok (.getfield 73, 3) := by decide +kernel
theorem dX11_order_60 : decode cX11_order 60 = .ok (.iload_n 1, 1) := by decide +kernel
theorem dX11_order_61 : decode cX11_order 61 = .ok (.invokevirtual 125, 3) := by decide +kernel
theorem dX11_order_64 : decode cX11_order 64 = .ok (.ireturn, 1) := by decide +kernel
theorem dX11_order_65 : decode cX11_order 65 = .ok (.aload_n 0, 1) := by decide +kernel
theorem dX11_order_66 : decode cX11_order 66 = .ok (.getfield 73, 3) := by decide +kernel
theorem dX11_order_69 : decode cX11_order 69 = .ok (.iload_n 1, 1) := by decide +kernel
theorem dX11_order_70 : decode cX11_order 70 = .ok (.invokevirtual 128, 3) := by decide +kernel
theorem dX11_order_73 : decode cX11_order 73 = .ok (.ifCond .eq 7, 3) := by decide +kernel
theorem dX11_order_76 : decode cX11_order 76 = .ok (.iconst 1, 1) := by decide +kernel
theorem dX11_order_77 : decode cX11_order 77 = .ok (.goto 4, 3) := by decide +kernel
theorem dX11_order_80 : decode cX11_order 80 = .ok (.iconst 0, 1) := by decide +kernel
theorem dX11_order_81 : decode cX11_order 81 = .ok (.ireturn, 1) := by decide +kernel
theorem dX11_order_82 : decode cX11_order 82 = .ok (.iconst (-1), 1) := by decide +kernel
theorem dX11_order_83 : decode cX11_order 83 = .ok (.ireturn, 1) := by decide +kernel
theorem dX11_input_0 : decode cX11_input 0 = .ok (.aload_n 0, 1) := by decide +kernel
theorem dX11_input_1 : decode cX11_input 1 = .ok (.iload_n 1, 1) := by decide +kernel
theorem dX11_input_2 : decode cX11_input 2 = .ok (.putfield 87, 3) := by decide +kernel
theorem dX11_input_5 : decode cX11_input 5 = .ok (.return_, 1) := by decide +kernel
theorem dX11_join_0 : decode cX11_join 0 = .ok (.iload_n 1, 1) := by decide +kernel
theorem dX11_join_1 : decode cX11_join 1 = .ok (.invokestatic 132, 3) := by decide +kernel
theorem dX11_join_4 : decode cX11_join 4 = .ok (.ifCond .eq 10, 3) := by decide +kernel
theorem dX11_join_7 : decode cX11_join 7 = .ok (.iload_n 2, 1) := by decide +kernel
theorem dX11_join_8 : decode cX11_join 8 = .ok (.invokestatic 132, 3) := by decide +kernel
theorem dX11_join_11 : decode cX11_join 11 = .ok (.ifCond .ne 9, 3) := by decide +kernel
theorem dX11_join_14 : decode cX11_join 14 = .ok (.aload_n 0, 1) := by decide +kernel
theorem dX11_join_15 : decode cX11_join 15 = .ok (.iconst 1, 1) := by decide +kernel
theorem dX11_join_16 : decode cX11_join 16 = .ok (.invokevirtual 99, 3) := by decide +kernel
theorem dX11_join_19 : decode cX11_join 19 = .ok (.ireturn, 1) := by decide +kernel
theorem dX11_join_20 : decode cX11_join 20 = .ok (.iload_n 1, 1) := by decide +kernel
theorem dX11_join_21 : decode cX11_join 21 = .ok (.iload_n 2, 1) := by decide +kernel
theorem dX11_join_22 : decode cX11_join 22 = .ok (.invokestatic 135, 3) := by decide +kernel
theorem dX11_join_25 : decode cX11_join 25 = .ok (.istore_n 3, 1) := by decide +kernel
theorem dX11_join_26 : decode cX11_join 26 = .ok (.aload_n 0, 1) := by decide +kernel
theorem dX11_join_27 : decode cX11_join 27 = .ok (.getfield 23, 3) := by decide +kernel
theorem dX11_join_30 : decode cX11_join 30 = .ok (.getfield 139, 3) := by decide +kernel
theorem dX11_join_33 : decode cX11_join 33 = .ok (.bipush 10, 2) := by decide +kernel
theorem dX11_join_35 : decode cX11_join 35 = .ok (.if_icmp .ge 14, 3) := by decide +kernel
theorem dX11_join_38 : decode cX11_join 38 = .ok (.aload_n 0, 1) := by decide +kernel
theorem dX11_join_39 : decode cX11_join 39 = .ok (.getfield 23, 3) := by decide +kernel
theorem dX11_join_42 : decode cX11_join 42 = .ok (.iload_n 3, 1) := by decide +kernel
theorem dX11_join_43 : decode cX11_join 43 = .ok (.invokevirtual 140, 3) := by decide +kernel
theorem dX11_join_46 : decode cX11_join 46 = .ok (.ifCond .eq 9, 3) := by decide +kernel
theorem dX11_join_49 : decode cX11_join 49 = .ok (.aload_n 0, 1) := by decide +kernel
theorem dX11_join_50 : decode cX11_join 50 = .ok (.iconst 2, 1) := by decide +kernel
theorem dX11_join_51 : decode cX11_join 51 = .ok (.invokevirtual 99, 3) := by decide +kernel
theorem dX11_join_54 : decode cX11_join 54 = .ok (.ireturn, 1) := by decide +kernel
theorem dX11_join_55 : decode cX11_join 55 = .ok (.aload_n 0, 1) := by decide +kernel
theorem dX11_join_56 : decode cX11_join 56 = .ok (.getfield 23, 3) := by decide +kernel
theorem dX11_join_59 : decode cX11_join 59 = .ok (.iload_n 3, 1) := by decide +kernel
theorem dX11_join_60 : decode cX11_join 60 = .ok (.invokevirtual 143, 3) := by decide +kernel
theorem dX11_join_63 : decode cX11_join 63 = .ok (.aload_n 0, 1) := by decide +kernel
theorem dX11_join_64 : decode cX11_join 64 = .ok (.aload_n 0, 1) := by decide +kernel
theorem dX11_join_65 : decode cX11_join 65 = .ok (.getfield 23, 3) := by decide +kernel
theorem dX11_join_68 : decode cX11_join 68 = .ok (.getfield 139, 3) := by decide +kernel
theorem dX11_join_71 : decode cX11_join 71 = .ok (.invokevirtual 110, 3) := by decide +kernel
theorem dX11_join_74 : decode cX11_join 74 = .ok (.ireturn, 1) := by decide +kernel
theorem dX11_part_0 : decode cX11_part 0 = .ok (.aload_n 0, 1) := by decide +kernel
theorem dX11_part_1 : decode cX11_part 1 = .ok (.getfield 23, 3) := by decide +kernel
theorem dX11_part_4 : decode cX11_part 4 = .ok (.getfield 139, 3) := by decide +kernel
theorem dX11_part_7 : decode cX11_part 7 = .ok (.istore_n 1, 1) := by decide +kernel
theorem dX11_part_8 : decode cX11_part 8 = .ok (.aload_n 0, 1) := by decide +kernel
theorem dX11_part_9 : decode cX11_part 9 = .ok (.getfield 23, 3) := by decide +kernel
theorem dX11_part_12 : decode cX11_part 12 = .ok (.invokevirtual 146, 3) := by decide +kernel
theorem dX11_part_15 : decode cX11_part 15 = .ok (.iload_n 1, 1) := by decide +kernel
theorem dX11_part_16 : decode cX11_part 16 = .ok (.ireturn, 1) := by decide +kernel
theorem dX11_joined_0 : decode cX11_joined 0 = .ok (.aload_n 0, 1) := by decide +kernel
theorem dX11_joined_1 : decode cX11_joined 1 = .ok (.getfield 73, 3) := by decide +kernel
theorem dX11_joined_4 : decode cX11_joined 4 = .ok (.getfield 107, 3) := by decide +kernel
theorem dX11_joined_7 : decode cX11_joined 7 = .ok (.ifCond .ne 9, 3) := by decide +kernel
theorem dX11_joined_10 : decode cX11_joined 10 = .ok (.aload_n 0, 1) := by decide +kernel
theorem dX11_joined_11 : decode cX11_joined 11 = .ok (.iconst 4, 1) := by decide +kernel
theorem dX11_joined_12 : decode cX11_joined 12 = .ok (.invokevirtual 99, 3) := by decide +kernel
theorem dX11_joined_15 : decode cX11_joined 15 = .ok (.ireturn, 1) := by decide +kernel
theorem dX11_joined_16 : decode cX11_joined 16 = .ok (.aload_n 0, 1) := by decide +kernel
theorem dX11_joined_17 : decode cX11_joined 17 = .ok (.aload_n 0, 1) := by decide +kernel
theorem dX11_joined_18 : decode cX11_joined 18 = .ok (.getfield 44, 3) := by decide +kernel
theorem dX11_joined_21 : decode cX11_joined 21 = .ok (.aload_n 0, 1) := by decide +kernel
theorem dX11_joined_22 : decode cX11_joined 22 = .ok (.getfield 73, 3) := by decide +kernel
theorem dX11_joined_25 : decode cX11_joined 25 = .ok (.iconst (-1), 1) := by decide +kernel
theorem dX11_joined_26 : decode cX11_joined 26 = .ok (.invokevirtual 149, 3) := by decide +kernel
theorem dX11_joined_29 : decode cX11_joined 29 = .ok (.invokevirtual 110, 3) := by decide +kernel
theorem dX11_joined_32 : decode cX11_joined 32 = .ok (.ireturn, 1) := by decide +kernel
theorem dX11_run_0 : decode cX11_run 0 = .ok (.aload_n 0, 1) := by decide +kernel
theorem dX11_run_1 : decode cX11_run 1 = .ok (.iload_n 1, 1) := by decide +kernel
theorem dX11_run_2 : decode cX11_run 2 = .ok (.iload_n 2, 1) := by decide +kernel
theorem dX11_run_3 : decode cX11_run 3 = .ok (.invokevirtual 153, 3) := by decide +kernel
theorem dX11_run_6 : decode cX11_run 6 = .ok (.istore_n 3, 1) := by decide +kernel
theorem dX11_run_7 : decode cX11_run 7 = .ok (.iload_n 3, 1) := by decide +kernel
theorem dX11_run_8 : decode cX11_run 8 = .ok (.ifCond .eq 9, 3) := by decide +kernel
theorem dX11_run_11 : decode cX11_run 11 = .ok (.aload_n 0, 1) := by decide +kernel
theorem dX11_run_12 : decode cX11_run 12 = .ok (.iload_n 3, 1) := by decide +kernel
theorem dX11_run_13 : decode cX11_run 13 = .ok (.invokevirtual 99, 3) := by decide +kernel
theorem dX11_run_16 : decode cX11_run 16 = .ok (.ireturn, 1) := by decide +kernel
theorem dX11_run_17 : decode cX11_run 17 = .ok (.aload_n 0, 1) := by decide +kernel
theorem dX11_run_18 : decode cX11_run 18 = .ok (.getfield 63, 3) := by decide +kernel
theorem dX11_run_21 : decode cX11_run 21 = .ok (.aload_n 0, 1) := by decide +kernel
theorem dX11_run_22 : decode cX11_run 22 = .ok (.getfield 73, 3) := by decide +kernel
theorem dX11_run_25 : decode cX11_run 25 = .ok (.aload_n 0, 1) := by decide +kernel
theorem dX11_run_26 : decode cX11_run 26 = .ok (.iload_n 1, 1) := by decide +kernel
theorem dX11_run_27 : decode cX11_run 27 = .ok (.invokevirtual 156, 3) := by decide +kernel
theorem dX11_run_30 : decode cX11_run 30 = .ok (.iload_n 2, 1) := by decide +kernel
theorem dX11_run_31 : decode cX11_run 31 = .ok (.aload_n 0, 1) := by decide +kernel
theorem dX11_run_32 : decode cX11_run 32 = .ok (.getfield 87, 3) := by decide +kernel
theorem dX11_run_35 : decode cX11_run 35 = .ok (.invokevirtual 160, 3) := by decide +kernel
theorem dX11_run_38 : decode cX11_run 38 = .ok (.aload_n 0, 1) := by decide +kernel
theorem dX11_run_39 : decode cX11_run 39 = .ok (.aload_n 0, 1) := by decide +kernel
theorem dX11_run_40 : decode cX11_run 40 = .ok (.getfield 63, 3) := by decide +kernel
theorem dX11_run_43 : decode cX11_run 43 = .ok (.getfield 164, 3) := by decide +kernel
theorem dX11_run_46 : decode cX11_run 46 = .ok (.invokevirtual 110, 3) := by decide +kernel
theorem dX11_run_49 : decode cX11_run 49 = .ok (.ireturn, 1) := by decide +kernel
theorem dX11_told_0 : decode cX11_told 0 = .ok (.aload_n 0, 1) := by decide +kernel
theorem dX11_told_1 : decode cX11_told 1 = .ok (.getfield 63, 3) := by decide +kernel
theorem dX11_told_4 : decode cX11_told 4 = .ok (.getfield 167, 3) := by decide +kernel
theorem dX11_told_7 : decode cX11_told 7 = .ok (.ifCond .ne 9, 3) := by decide +kernel
theorem dX11_told_10 : decode cX11_told 10 = .ok (.aload_n 0, 1) := by decide +kernel
theorem dX11_told_11 : decode cX11_told 11 = .ok (.iconst 5, 1) := by decide +kernel
theorem dX11_told_12 : decode cX11_told 12 = .ok (.invokevirtual 99, 3) := by decide +kernel
theorem dX11_told_15 : decode cX11_told 15 = .ok (.ireturn, 1) := by decide +kernel
theorem dX11_told_16 : decode cX11_told 16 = .ok (.iload_n 1, 1) := by decide +kernel
theorem dX11_told_17 : decode cX11_told 17 = .ok (.tableswitch 111 0 5 #[39, 51, 63, 75, 87, 99], 39) := by decide +kernel
theorem dX11_told_56 : decode cX11_told 56 = .ok (.aload_n 0, 1) := by decide +kernel
theorem dX11_told_57 : decode cX11_told 57 = .ok (.aload_n 0, 1) := by decide +kernel
theorem dX11_told_58 : decode cX11_told 58 = .ok (.getfield 63, 3) := by decide +kernel
theorem dX11_told_61 : decode cX11_told 61 = .ok (.getfield 171, 3) := by decide +kernel
theorem dX11_told_64 : decode cX11_told 64 = .ok (.invokevirtual 110, 3) := by decide +kernel
theorem dX11_told_67 : decode cX11_told 67 = .ok (.ireturn, 1) := by decide +kernel
theorem dX11_told_68 : decode cX11_told 68 = .ok (.aload_n 0, 1) := by decide +kernel
theorem dX11_told_69 : decode cX11_told 69 = .ok (.aload_n 0, 1) := by decide +kernel
theorem dX11_told_70 : decode cX11_told 70 = .ok (.getfield 63, 3) := by decide +kernel
theorem dX11_told_73 : decode cX11_told 73 = .ok (.getfield 174, 3) := by decide +kernel
theorem dX11_told_76 : decode cX11_told 76 = .ok (.invokevirtual 110, 3) := by decide +kernel
theorem dX11_told_79 : decode cX11_told 79 = .ok (.ireturn, 1) := by decide +kernel
theorem dX11_told_80 : decode cX11_told 80 = .ok (.aload_n 0, 1) := by decide +kernel
theorem dX11_told_81 : decode cX11_told 81 = .ok (.aload_n 0, 1) := by decide +kernel
theorem dX11_told_82 : decode cX11_told 82 = .ok (.getfield 63, 3) := by decide +kernel
theorem dX11_told_85 : decode cX11_told 85 = .ok (.getfield 177, 3) := by decide +kernel
theorem dX11_told_88 : decode cX11_told 88 = .ok (.invokevirtual 110, 3) := by decide +kernel
theorem dX11_told_91 : decode cX11_told 91 = .ok (.ireturn, 1) := by decide +kernel
theorem dX11_told_92 : decode cX11_told 92 = .ok (.aload_n 0, 1) := by decide +kernel
theorem dX11_told_93 : decode cX11_told 93 = .ok (.aload_n 0, 1) := by decide +kernel
theorem dX11_told_94 : decode cX11_told 94 = .ok (.getfield 63, 3) := by decide +kernel
theorem dX11_told_97 : decode cX11_told 97 = .ok (.getfield 180, 3) := by decide +kernel
theorem dX11_told_100 : decode cX11_told 100 = .ok (.invokevirtual 110, 3) := by decide +kernel
theorem dX11_told_103 : decode cX11_told 103 = .ok (.ireturn, 1) := by decide +kernel
theorem dX11_told_104 : decode cX11_told 104 = .ok (.aload_n 0, 1) := by decide +kernel
theorem dX11_told_105 : decode cX11_told 105 = .ok (.aload_n 0, 1) := by decide +kernel
theorem dX11_told_106 : decode cX11_told 106 = .ok (.getfield 63, 3) := by decide +kernel
theorem dX11_told_109 : decode cX11_told 109 = .ok (.getfield 183, 3) := by decide +kernel
theorem dX11_told_112 : decode cX11_told 112 = .ok (.invokevirtual 110, 3) := by decide +kernel
theorem dX11_told_115 : decode cX11_told 115 = .ok (.ireturn, 1) := by decide +kernel
theorem dX11_told_116 : decode cX11_told 116 = .ok (.aload_n 0, 1) := by decide +kernel
theorem dX11_told_117 : decode cX11_told 117 = .ok (.aload_n 0, 1) := by decide +kernel
theorem dX11_told_118 : decode cX11_told 118 = .ok (.getfield 63, 3) := by decide +kernel
theorem dX11_told_121 : decode cX11_told 121 = .ok (.getfield 186, 3) := by decide +kernel
theorem dX11_told_124 : decode cX11_told 124 = .ok (.invokevirtual 110, 3) := by decide +kernel
theorem dX11_told_127 : decode cX11_told 127 = .ok (.ireturn, 1) := by decide +kernel
theorem dX11_told_128 : decode cX11_told 128 = .ok (.aload_n 0, 1) := by decide +kernel
theorem dX11_told_129 : decode cX11_told 129 = .ok (.iconst 1, 1) := by decide +kernel
theorem dX11_told_130 : decode cX11_told 130 = .ok (.invokevirtual 99, 3) := by decide +kernel
theorem dX11_told_133 : decode cX11_told 133 = .ok (.ireturn, 1) := by decide +kernel
theorem dX11_out_0 : decode cX11_out 0 = .ok (.iload_n 1, 1) := by decide +kernel
theorem dX11_out_1 : decode cX11_out 1 = .ok (.ifCond .lt 20, 3) := by decide +kernel
theorem dX11_out_4 : decode cX11_out 4 = .ok (.iload_n 1, 1) := by decide +kernel
theorem dX11_out_5 : decode cX11_out 5 = .ok (.aload_n 0, 1) := by decide +kernel
theorem dX11_out_6 : decode cX11_out 6 = .ok (.getfield 63, 3) := by decide +kernel
theorem dX11_out_9 : decode cX11_out 9 = .ok (.getfield 180, 3) := by decide +kernel
theorem dX11_out_12 : decode cX11_out 12 = .ok (.if_icmp .ge 9, 3) := by decide +kernel
theorem dX11_out_15 : decode cX11_out 15 = .ok (.iload_n 1, 1) := by decide +kernel
theorem dX11_out_16 : decode cX11_out 16 = .ok (.bipush 60, 2) := by decide +kernel
theorem dX11_out_18 : decode cX11_out 18 = .ok (.if_icmp .lt 13, 3) := by decide +kernel
theorem dX11_out_21 : decode cX11_out 21 = .ok (.new 189, 3) := by decide +kernel
theorem dX11_out_24 : decode cX11_out 24 = .ok (.dup, 1) := by decide +kernel
theorem dX11_out_25 : decode cX11_out 25 = .ok (.ldc 191, 2) := by decide +kernel
theorem dX11_out_27 : decode cX11_out 27 = .ok (.invokespecial 193, 3) := by decide +kernel
theorem dX11_out_30 : decode cX11_out 30 = .ok (.athrow, 1) := by decide +kernel
theorem dX11_out_31 : decode cX11_out 31 = .ok (.aload_n 0, 1) := by decide +kernel
theorem dX11_out_32 : decode cX11_out 32 = .ok (.getfield 63, 3) := by decide +kernel
theorem dX11_out_35 : decode cX11_out 35 = .ok (.getfield 196, 3) := by decide +kernel
theorem dX11_out_38 : decode cX11_out 38 = .ok (.iload_n 1, 1) := by decide +kernel
theorem dX11_out_39 : decode cX11_out 39 = .ok (.iaload, 1) := by decide +kernel
theorem dX11_out_40 : decode cX11_out 40 = .ok (.ireturn, 1) := by decide +kernel
theorem dX11_pile_0 : decode cX11_pile 0 = .ok (.iload_n 1, 1) := by decide +kernel
theorem dX11_pile_1 : decode cX11_pile 1 = .ok (.ifCond .lt 20, 3) := by decide +kernel
theorem dX11_pile_4 : decode cX11_pile 4 = .ok (.iload_n 1, 1) := by decide +kernel
theorem dX11_pile_5 : decode cX11_pile 5 = .ok (.aload_n 0, 1) := by decide +kernel
theorem dX11_pile_6 : decode cX11_pile 6 = .ok (.getfield 63, 3) := by decide +kernel
theorem dX11_pile_9 : decode cX11_pile 9 = .ok (.getfield 177, 3) := by decide +kernel
theorem dX11_pile_12 : decode cX11_pile 12 = .ok (.if_icmp .ge 9, 3) := by decide +kernel
theorem dX11_pile_15 : decode cX11_pile 15 = .ok (.iload_n 1, 1) := by decide +kernel
theorem dX11_pile_16 : decode cX11_pile 16 = .ok (.bipush 32, 2) := by decide +kernel
theorem dX11_pile_18 : decode cX11_pile 18 = .ok (.if_icmp .lt 13, 3) := by decide +kernel
theorem dX11_pile_21 : decode cX11_pile 21 = .ok (.new 189, 3) := by decide +kernel
theorem dX11_pile_24 : decode cX11_pile 24 = .ok (.dup, 1) := by decide +kernel
theorem dX11_pile_25 : decode cX11_pile 25 = .ok (.ldc 199, 2) := by decide +kernel
theorem dX11_pile_27 : decode cX11_pile 27 = .ok (.invokespecial 193, 3) := by decide +kernel
theorem dX11_pile_30 : decode cX11_pile 30 = .ok (.athrow, 1) := by decide +kernel
theorem dX11_pile_31 : decode cX11_pile 31 = .ok (.aload_n 0, 1) := by decide +kernel
theorem dX11_pile_32 : decode cX11_pile 32 = .ok (.getfield 63, 3) := by decide +kernel
theorem dX11_pile_35 : decode cX11_pile 35 = .ok (.getfield 201, 3) := by decide +kernel
theorem dX11_pile_38 : decode cX11_pile 38 = .ok (.iload_n 1, 1) := by decide +kernel
theorem dX11_pile_39 : decode cX11_pile 39 = .ok (.iaload, 1) := by decide +kernel
theorem dX11_pile_40 : decode cX11_pile 40 = .ok (.ireturn, 1) := by decide +kernel
theorem dX11_cell_0 : decode cX11_cell 0 = .ok (.aload_n 0, 1) := by decide +kernel
theorem dX11_cell_1 : decode cX11_cell 1 = .ok (.getfield 63, 3) := by decide +kernel
theorem dX11_cell_4 : decode cX11_cell 4 = .ok (.iload_n 1, 1) := by decide +kernel
theorem dX11_cell_5 : decode cX11_cell 5 = .ok (.invokevirtual 204, 3) := by decide +kernel
theorem dX11_cell_8 : decode cX11_cell 8 = .ok (.ireturn, 1) := by decide +kernel
theorem dX11_did_0 : decode cX11_did 0 = .ok (.aload_n 0, 1) := by decide +kernel
theorem dX11_did_1 : decode cX11_did 1 = .ok (.getfield 63, 3) := by decide +kernel
theorem dX11_did_4 : decode cX11_did 4 = .ok (.getfield 167, 3) := by decide +kernel
theorem dX11_did_7 : decode cX11_did 7 = .ok (.ifCond .eq 10, 3) := by decide +kernel
theorem dX11_did_10 : decode cX11_did 10 = .ok (.iload_n 1, 1) := by decide +kernel
theorem dX11_did_11 : decode cX11_did 11 = .ok (.invokestatic 132, 3) := by decide +kernel
theorem dX11_did_14 : decode cX11_did 14 = .ok (.ifCond .ne 5, 3) := by decide +kernel
theorem dX11_did_17 : decode cX11_did 17 = .ok (.iconst (-1), 1) := by decide +kernel
theorem dX11_did_18 : decode cX11_did 18 = .ok (.ireturn, 1) := by decide +kernel
theorem dX11_did_19 : decode cX11_did 19 = .ok (.aload_n 0, 1) := by decide +kernel
theorem dX11_did_20 : decode cX11_did 20 = .ok (.getfield 63, 3) := by decide +kernel
theorem dX11_did_23 : decode cX11_did 23 = .ok (.getfield 207, 3) := by decide +kernel
theorem dX11_did_26 : decode cX11_did 26 = .ok (.iload_n 1, 1) := by decide +kernel
theorem dX11_did_27 : decode cX11_did 27 = .ok (.iaload, 1) := by decide +kernel
theorem dX11_did_28 : decode cX11_did 28 = .ok (.ireturn, 1) := by decide +kernel
theorem dX11_follows_0 : decode cX11_follows 0 = .ok (.aload_n 0, 1) := by decide +kernel
theorem dX11_follows_1 : decode cX11_follows 1 = .ok (.getfield 63, 3) := by decide +kernel
theorem dX11_follows_4 : decode cX11_follows 4 = .ok (.getfield 167, 3) := by decide +kernel
theorem dX11_follows_7 : decode cX11_follows 7 = .ok (.ifCond .eq 17, 3) := by decide +kernel
theorem dX11_follows_10 : decode cX11_follows 10 = .ok (.iload_n 1, 1) := by decide +kernel
theorem dX11_follows_11 : decode cX11_follows 11 = .ok (.invokestatic 132, 3) := by decide +kernel
theorem dX11_follows_14 : decode cX11_follows 14 = .ok (.ifCond .eq 10, 3) := by decide +kernel
theorem dX11_follows_17 : decode cX11_follows 17 = .ok (.iload_n 2, 1) := by decide +kernel
theorem dX11_follows_18 : decode cX11_follows 18 = .ok (.invokestatic 132, 3) := by decide +kernel
theorem dX11_follows_21 : decode cX11_follows 21 = .ok (.ifCond .ne 5, 3) := by decide +kernel
theorem dX11_follows_24 : decode cX11_follows 24 = .ok (.iconst (-1), 1) := by decide +kernel
theorem dX11_follows_25 : decode cX11_follows 25 = .ok (.ireturn, 1) := by decide +kernel
theorem dX11_follows_26 : decode cX11_follows 26 = .ok (.aload_n 0, 1) := by decide +kernel
theorem dX11_follows_27 : decode cX11_follows 27 = .ok (.getfield 63, 3) := by decide +kernel
theorem dX11_follows_30 : decode cX11_follows 30 = .ok (.getfield 210, 3) := by decide +kernel
theorem dX11_follows_33 : decode cX11_follows 33 = .ok (.iload_n 1, 1) := by decide +kernel
theorem dX11_follows_34 : decode cX11_follows 34 = .ok (.iload_n 2, 1) := by decide +kernel
theorem dX11_follows_35 : decode cX11_follows 35 = .ok (.invokestatic 135, 3) := by decide +kernel
theorem dX11_follows_38 : decode cX11_follows 38 = .ok (.iaload, 1) := by decide +kernel
theorem dX11_follows_39 : decode cX11_follows 39 = .ok (.ireturn, 1) := by decide +kernel
theorem dX11_most_0 : decode cX11_most 0 = .ok (.aload_n 0, 1) := by decide +kernel
theorem dX11_most_1 : decode cX11_most 1 = .ok (.getfield 63, 3) := by decide +kernel
theorem dX11_most_4 : decode cX11_most 4 = .ok (.getfield 167, 3) := by decide +kernel
theorem dX11_most_7 : decode cX11_most 7 = .ok (.ifCond .ne 9, 3) := by decide +kernel
theorem dX11_most_10 : decode cX11_most 10 = .ok (.aload_n 0, 1) := by decide +kernel
theorem dX11_most_11 : decode cX11_most 11 = .ok (.iconst 5, 1) := by decide +kernel
theorem dX11_most_12 : decode cX11_most 12 = .ok (.invokevirtual 99, 3) := by decide +kernel
theorem dX11_most_15 : decode cX11_most 15 = .ok (.ireturn, 1) := by decide +kernel
theorem dX11_most_16 : decode cX11_most 16 = .ok (.aload_n 0, 1) := by decide +kernel
theorem dX11_most_17 : decode cX11_most 17 = .ok (.getfield 63, 3) := by decide +kernel
theorem dX11_most_20 : decode cX11_most 20 = .ok (.invokevirtual 213, 3) := by decide +kernel
theorem dX11_most_23 : decode cX11_most 23 = .ok (.istore_n 1, 1) := by decide +kernel
theorem dX11_most_24 : decode cX11_most 24 = .ok (.aload_n 0, 1) := by decide +kernel
theorem dX11_most_25 : decode cX11_most 25 = .ok (.iload_n 1, 1) := by decide +kernel
theorem dX11_most_26 : decode cX11_most 26 = .ok (.iconst (-1), 1) := by decide +kernel
theorem dX11_most_27 : decode cX11_most 27 = .ok (.if_icmp .ne 8, 3) := by decide +kernel
theorem dX11_most_30 : decode cX11_most 30 = .ok (.bipush (-2), 2) := by decide +kernel
theorem dX11_most_32 : decode cX11_most 32 = .ok (.goto 7, 3) := by decide +kernel
theorem dX11_most_35 : decode cX11_most 35 = .ok (.iload_n 1, 1) := by decide +kernel
theorem dX11_most_36 : decode cX11_most 36 = .ok (.invokestatic 217, 3) := by decide +kernel
theorem dX11_most_39 : decode cX11_most 39 = .ok (.invokevirtual 110, 3) := by decide +kernel
theorem dX11_most_42 : decode cX11_most 42 = .ok (.ireturn, 1) := by decide +kernel
theorem dX11_traces_0 : decode cX11_traces 0 = .ok (.aload_n 0, 1) := by decide +kernel
theorem dX11_traces_1 : decode cX11_traces 1 = .ok (.getfield 63, 3) := by decide +kernel
theorem dX11_traces_4 : decode cX11_traces 4 = .ok (.getfield 167, 3) := by decide +kernel
theorem dX11_traces_7 : decode cX11_traces 7 = .ok (.ifCond .ne 9, 3) := by decide +kernel
theorem dX11_traces_10 : decode cX11_traces 10 = .ok (.aload_n 0, 1) := by decide +kernel
theorem dX11_traces_11 : decode cX11_traces 11 = .ok (.iconst 5, 1) := by decide +kernel
theorem dX11_traces_12 : decode cX11_traces 12 = .ok (.invokevirtual 99, 3) := by decide +kernel
theorem dX11_traces_15 : decode cX11_traces 15 = .ok (.ireturn, 1) := by decide +kernel
theorem dX11_traces_16 : decode cX11_traces 16 = .ok (.aload_n 0, 1) := by decide +kernel
theorem dX11_traces_17 : decode cX11_traces 17 = .ok (.aload_n 0, 1) := by decide +kernel
theorem dX11_traces_18 : decode cX11_traces 18 = .ok (.getfield 63, 3) := by decide +kernel
theorem dX11_traces_21 : decode cX11_traces 21 = .ok (.getfield 220, 3) := by decide +kernel
theorem dX11_traces_24 : decode cX11_traces 24 = .ok (.invokevirtual 110, 3) := by decide +kernel
theorem dX11_traces_27 : decode cX11_traces 27 = .ok (.ireturn, 1) := by decide +kernel
theorem dX11_trace_0 : decode cX11_trace 0 = .ok (.aload_n 0, 1) := by decide +kernel
theorem dX11_trace_1 : decode cX11_trace 1 = .ok (.getfield 63, 3) := by decide +kernel
theorem dX11_trace_4 : decode cX11_trace 4 = .ok (.getfield 167, 3) := by decide +kernel
theorem dX11_trace_7 : decode cX11_trace 7 = .ok (.ifCond .eq 24, 3) := by decide +kernel
theorem dX11_trace_10 : decode cX11_trace 10 = .ok (.iload_n 1, 1) := by decide +kernel
theorem dX11_trace_11 : decode cX11_trace 11 = .ok (.ifCond .lt 20, 3) := by decide +kernel
theorem dX11_trace_14 : decode cX11_trace 14 = .ok (.iload_n 1, 1) := by decide +kernel
theorem dX11_trace_15 : decode cX11_trace 15 = .ok (.aload_n 0, 1) := by decide +kernel
theorem dX11_trace_16 : decode cX11_trace 16 = .ok (.getfield 63, 3) := by decide +kernel
theorem dX11_trace_19 : decode cX11_trace 19 = .ok (.getfield 223, 3) := by decide +kernel
theorem dX11_trace_22 : decode cX11_trace 22 = .ok (.if_icmp .ge 9, 3) := by decide +kernel
theorem dX11_trace_25 : decode cX11_trace 25 = .ok (.iload_n 1, 1) := by decide +kernel
theorem dX11_trace_26 : decode cX11_trace 26 = .ok (.bipush 100, 2) := by decide +kernel
theorem dX11_trace_28 : decode cX11_trace 28 = .ok (.if_icmp .lt 5, 3) := by decide +kernel
theorem dX11_trace_31 : decode cX11_trace 31 = .ok (.iconst (-1), 1) := by decide +kernel
theorem dX11_trace_32 : decode cX11_trace 32 = .ok (.ireturn, 1) := by decide +kernel
theorem dX11_trace_33 : decode cX11_trace 33 = .ok (.aload_n 0, 1) := by decide +kernel
theorem dX11_trace_34 : decode cX11_trace 34 = .ok (.getfield 63, 3) := by decide +kernel
theorem dX11_trace_37 : decode cX11_trace 37 = .ok (.getfield 226, 3) := by decide +kernel
theorem dX11_trace_40 : decode cX11_trace 40 = .ok (.iload_n 1, 1) := by decide +kernel
theorem dX11_trace_41 : decode cX11_trace 41 = .ok (.iaload, 1) := by decide +kernel
theorem dX11_trace_42 : decode cX11_trace 42 = .ok (.ireturn, 1) := by decide +kernel
theorem dX11_cost_0 : decode cX11_cost 0 = .ok (.aload_n 0, 1) := by decide +kernel
theorem dX11_cost_1 : decode cX11_cost 1 = .ok (.iload_n 1, 1) := by decide +kernel
theorem dX11_cost_2 : decode cX11_cost 2 = .ok (.iload_n 2, 1) := by decide +kernel
theorem dX11_cost_3 : decode cX11_cost 3 = .ok (.invokevirtual 153, 3) := by decide +kernel
theorem dX11_cost_6 : decode cX11_cost 6 = .ok (.istore_n 3, 1) := by decide +kernel
theorem dX11_cost_7 : decode cX11_cost 7 = .ok (.iload_n 3, 1) := by decide +kernel
theorem dX11_cost_8 : decode cX11_cost 8 = .ok (.ifCond .eq 9, 3) := by decide +kernel
theorem dX11_cost_11 : decode cX11_cost 11 = .ok (.aload_n 0, 1) := by decide +kernel
theorem dX11_cost_12 : decode cX11_cost 12 = .ok (.iload_n 3, 1) := by decide +kernel
theorem dX11_cost_13 : decode cX11_cost 13 = .ok (.invokevirtual 99, 3) := by decide +kernel
theorem dX11_cost_16 : decode cX11_cost 16 = .ok (.ireturn, 1) := by decide +kernel
theorem dX11_cost_17 : decode cX11_cost 17 = .ok (.aload_n 0, 1) := by decide +kernel
theorem dX11_cost_18 : decode cX11_cost 18 = .ok (.aload_n 0, 1) := by decide +kernel
theorem dX11_cost_19 : decode cX11_cost 19 = .ok (.iload_n 1, 1) := by decide +kernel
theorem dX11_cost_20 : decode cX11_cost 20 = .ok (.iload_n 2, 1) := by decide +kernel
theorem dX11_cost_21 : decode cX11_cost 21 = .ok (.invokevirtual 229, 3) := by decide +kernel
theorem dX11_cost_24 : decode cX11_cost 24 = .ok (.invokevirtual 110, 3) := by decide +kernel
theorem dX11_cost_27 : decode cX11_cost 27 = .ok (.ireturn, 1) := by decide +kernel
theorem dX11_cheapest_0 : decode cX11_cheapest 0 = .ok (.aload_n 0, 1) := by decide +kernel
theorem dX11_cheapest_1 : decode cX11_cheapest 1 = .ok (.iconst 0, 1) := by decide +kernel
theorem dX11_cheapest_2 : decode cX11_cheapest 2 = .ok (.iload_n 1, 1) := by decide +kernel
theorem dX11_cheapest_3 : decode cX11_cheapest 3 = .ok (.invokevirtual 153, 3) := by decide +kernel
theorem dX11_cheapest_6 : decode cX11_cheapest 6 = .ok (.istore_n 2, 1) := by decide +kernel
theorem dX11_cheapest_7 : decode cX11_cheapest 7 = .ok (.iload_n 2, 1) := by decide +kernel
theorem dX11_cheapest_8 : decode cX11_cheapest 8 = .ok (.ifCond .eq 9, 3) := by decide +kernel
theorem dX11_cheapest_11 : decode cX11_cheapest 11 = .ok (.aload_n 0, 1) := by decide +kernel
theorem dX11_cheapest_12 : decode cX11_cheapest 12 = .ok (.iload_n 2, 1) := by decide +kernel
theorem dX11_cheapest_13 : decode cX11_cheapest 13 = .ok (.invokevirtual 99, 3) := by decide +kernel
theorem dX11_cheapest_16 : decode cX11_cheapest 16 = .ok (.ireturn, 1) := by decide +kernel
theorem dX11_cheapest_17 : decode cX11_cheapest 17 = .ok (.iconst 0, 1) := by decide +kernel
theorem dX11_cheapest_18 : decode cX11_cheapest 18 = .ok (.istore_n 3, 1) := by decide +kernel
theorem dX11_cheapest_19 : decode cX11_cheapest 19 = .ok (.aload_n 0, 1) := by decide +kernel
theorem dX11_cheapest_20 : decode cX11_cheapest 20 = .ok (.iconst 0, 1) := by decide +kernel
theorem dX11_cheapest_21 : decode cX11_cheapest 21 = .ok (.iload_n 1, 1) := by decide +kernel
theorem dX11_cheapest_22 : decode cX11_cheapest 22 = .ok (.invokevirtual 229, 3) := by decide +kernel
theorem dX11_cheapest_25 : decode cX11_cheapest 25 = .ok (.istore 4, 2) := by decide +kernel
theorem dX11_cheapest_27 : decode cX11_cheapest 27 = .ok (.iconst 1, 1) := by decide +kernel
theorem dX11_cheapest_28 : decode cX11_cheapest 28 = .ok (.istore 5, 2) := by decide +kernel
theorem dX11_cheapest_30 : decode cX11_cheapest 30 = .ok (.iload 5, 2) := by decide +kernel
theorem dX11_cheapest_32 : decode cX11_cheapest 32 = .ok (.iconst 5, 1) := by decide +kernel
theorem dX11_cheapest_33 : decode cX11_cheapest 33 = .ok (.if_icmp .ge 32, 3) := by decide +kernel
theorem dX11_cheapest_36 : decode cX11_cheapest 36 = .ok (.aload_n 0, 1) := by decide +kernel
theorem dX11_cheapest_37 : decode cX11_cheapest 37 = .ok (.iload 5, 2) := by decide +kernel
theorem dX11_cheapest_39 : decode cX11_cheapest 39 = .ok (.iload_n 1, 1) := by decide +kernel
theorem dX11_cheapest_40 : decode cX11_cheapest 40 = .ok (.invokevirtual 229, 3) := by decide +kernel
theorem dX11_cheapest_43 : decode cX11_cheapest 43 = .ok (.istore 6, 2) := by decide +kernel
theorem dX11_cheapest_45 : decode cX11_cheapest 45 = .ok (.iload 6, 2) := by decide +kernel
theorem dX11_cheapest_47 : decode cX11_cheapest 47 = .ok (.iload 4, 2) := by decide +kernel
theorem dX11_cheapest_49 : decode cX11_cheapest 49 = .ok (.if_icmp .ge 10, 3) := by decide +kernel
theorem dX11_cheapest_52 : decode cX11_cheapest 52 = .ok (.iload 6, 2) := by decide +kernel
theorem dX11_cheapest_54 : decode cX11_cheapest 54 = .ok (.istore 4, 2) := by decide +kernel
theorem dX11_cheapest_56 : decode cX11_cheapest 56 = .ok (.iload 5, 2) := by decide +kernel
theorem dX11_cheapest_58 : decode cX11_cheapest 58 = .ok (.istore_n 3, 1) := by decide +kernel
theorem dX11_cheapest_59 : decode cX11_cheapest 59 = .ok (.iinc 5 1, 3) := by decide +kernel
theorem dX11_cheapest_62 : decode cX11_cheapest 62 = .ok (.goto (-32), 3) := by decide +kernel
theorem dX11_cheapest_65 : decode cX11_cheapest 65 = .ok (.aload_n 0, 1) := by decide +kernel
theorem dX11_cheapest_66 : decode cX11_cheapest 66 = .ok (.iload_n 3, 1) := by decide +kernel
theorem dX11_cheapest_67 : decode cX11_cheapest 67 = .ok (.invokevirtual 110, 3) := by decide +kernel
theorem dX11_cheapest_70 : decode cX11_cheapest 70 = .ok (.ireturn, 1) := by decide +kernel
theorem dX11_gain_0 : decode cX11_gain 0 = .ok (.aload_n 0, 1) := by decide +kernel
theorem dX11_gain_1 : decode cX11_gain 1 = .ok (.iconst 2, 1) := by decide +kernel
theorem dX11_gain_2 : decode cX11_gain 2 = .ok (.iload_n 1, 1) := by decide +kernel
theorem dX11_gain_3 : decode cX11_gain 3 = .ok (.invokevirtual 153, 3) := by decide +kernel
theorem dX11_gain_6 : decode cX11_gain 6 = .ok (.istore_n 2, 1) := by decide +kernel
theorem dX11_gain_7 : decode cX11_gain 7 = .ok (.iload_n 2, 1) := by decide +kernel
theorem dX11_gain_8 : decode cX11_gain 8 = .ok (.ifCond .eq 9, 3) := by decide +kernel
theorem dX11_gain_11 : decode cX11_gain 11 = .ok (.aload_n 0, 1) := by decide +kernel
theorem dX11_gain_12 : decode cX11_gain 12 = .ok (.iload_n 2, 1) := by decide +kernel
theorem dX11_gain_13 : decode cX11_gain 13 = .ok (.invokevirtual 99, 3) := by decide +kernel
theorem dX11_gain_16 : decode cX11_gain 16 = .ok (.ireturn, 1) := by decide +kernel
theorem dX11_gain_17 : decode cX11_gain 17 = .ok (.aload_n 0, 1) := by decide +kernel
theorem dX11_gain_18 : decode cX11_gain 18 = .ok (.iconst 2, 1) := by decide +kernel
theorem dX11_gain_19 : decode cX11_gain 19 = .ok (.iload_n 1, 1) := by decide +kernel
theorem dX11_gain_20 : decode cX11_gain 20 = .ok (.invokevirtual 229, 3) := by decide +kernel
theorem dX11_gain_23 : decode cX11_gain 23 = .ok (.pop, 1) := by decide +kernel
theorem dX11_gain_24 : decode cX11_gain 24 = .ok (.aload_n 0, 1) := by decide +kernel
theorem dX11_gain_25 : decode cX11_gain 25 = .ok (.getfield 44, 3) := by decide +kernel
theorem dX11_gain_28 : decode cX11_gain 28 = .ok (.aload_n 0, 1) := by decide +kernel
theorem dX11_gain_29 : decode cX11_gain 29 = .ok (.getfield 73, 3) := by decide +kernel
theorem dX11_gain_32 : decode cX11_gain 32 = .ok (.iconst (-1), 1) := by decide +kernel
theorem dX11_gain_33 : decode cX11_gain 33 = .ok (.invokevirtual 232, 3) := by decide +kernel
theorem dX11_gain_36 : decode cX11_gain 36 = .ok (.istore_n 3, 1) := by decide +kernel
theorem dX11_gain_37 : decode cX11_gain 37 = .ok (.iconst 0, 1) := by decide +kernel
theorem dX11_gain_38 : decode cX11_gain 38 = .ok (.istore 4, 2) := by decide +kernel
theorem dX11_gain_40 : decode cX11_gain 40 = .ok (.iconst 0, 1) := by decide +kernel
theorem dX11_gain_41 : decode cX11_gain 41 = .ok (.istore 5, 2) := by decide +kernel
theorem dX11_gain_43 : decode cX11_gain 43 = .ok (.iload 5, 2) := by decide +kernel
theorem dX11_gain_45 : decode cX11_gain 45 = .ok (.sipush 225, 3) := by decide +kernel
theorem dX11_gain_48 : decode cX11_gain 48 = .ok (.if_icmp .ge 55, 3) := by decide +kernel
theorem dX11_gain_51 : decode cX11_gain 51 = .ok (.aload_n 0, 1) := by decide +kernel
theorem dX11_gain_52 : decode cX11_gain 52 = .ok (.getfield 23, 3) := by decide +kernel
theorem dX11_gain_55 : decode cX11_gain 55 = .ok (.iload 5, 2) := by decide +kernel
theorem dX11_gain_57 : decode cX11_gain 57 = .ok (.invokevirtual 140, 3) := by decide +kernel
theorem dX11_gain_60 : decode cX11_gain 60 = .ok (.ifCond .ne 37, 3) := by decide +kernel
theorem dX11_gain_63 : decode cX11_gain 63 = .ok (.aload_n 0, 1) := by decide +kernel
theorem dX11_gain_64 : decode cX11_gain 64 = .ok (.getfield 44, 3) := by decide +kernel
theorem dX11_gain_67 : decode cX11_gain 67 = .ok (.aload_n 0, 1) := by decide +kernel
theorem dX11_gain_68 : decode cX11_gain 68 = .ok (.getfield 73, 3) := by decide +kernel
theorem dX11_gain_71 : decode cX11_gain 71 = .ok (.iload 5, 2) := by decide +kernel
theorem dX11_gain_73 : decode cX11_gain 73 = .ok (.invokevirtual 232, 3) := by decide +kernel
theorem dX11_gain_76 : decode cX11_gain 76 = .ok (.iload_n 3, 1) := by decide +kernel
theorem dX11_gain_77 : decode cX11_gain 77 = .ok (.isub, 1) := by decide +kernel
theorem dX11_gain_78 : decode cX11_gain 78 = .ok (.istore 6, 2) := by decide +kernel
theorem dX11_gain_80 : decode cX11_gain 80 = .ok (.iload 6, 2) := by decide +kernel
theorem dX11_gain_82 : decode cX11_gain 82 = .ok (.iload 4, 2) := by decide +kernel
theorem dX11_gain_84 : decode cX11_gain 84 = .ok (.if_icmp .le 13, 3) := by decide +kernel
theorem dX11_gain_87 : decode cX11_gain 87 = .ok (.iload 6, 2) := by decide +kernel
theorem dX11_gain_89 : decode cX11_gain 89 = .ok (.istore 4, 2) := by decide +kernel
theorem dX11_gain_91 : decode cX11_gain 91 = .ok (.aload_n 0, 1) := by decide +kernel
theorem dX11_gain_92 : decode cX11_gain 92 = .ok (.iload 5, 2) := by decide +kernel
theorem dX11_gain_94 : decode cX11_gain 94 = .ok (.putfield 90, 3) := by decide +kernel
theorem dX11_gain_97 : decode cX11_gain 97 = .ok (.iinc 5 1, 3) := by decide +kernel
theorem dX11_gain_100 : decode cX11_gain 100 = .ok (.goto (-57), 3) := by decide +kernel
theorem dX11_gain_103 : decode cX11_gain 103 = .ok (.aload_n 0, 1) := by decide +kernel
theorem dX11_gain_104 : decode cX11_gain 104 = .ok (.iload 4, 2) := by decide +kernel
theorem dX11_gain_106 : decode cX11_gain 106 = .ok (.invokevirtual 110, 3) := by decide +kernel
theorem dX11_gain_109 : decode cX11_gain 109 = .ok (.ireturn, 1) := by decide +kernel
theorem dX11_better_0 : decode cX11_better 0 = .ok (.aload_n 0, 1) := by decide +kernel
theorem dX11_better_1 : decode cX11_better 1 = .ok (.getfield 90, 3) := by decide +kernel
theorem dX11_better_4 : decode cX11_better 4 = .ok (.iconst (-1), 1) := by decide +kernel
theorem dX11_better_5 : decode cX11_better 5 = .ok (.if_icmp .ne 7, 3) := by decide +kernel
theorem dX11_better_8 : decode cX11_better 8 = .ok (.iconst (-1), 1) := by decide +kernel
theorem dX11_better_9 : decode cX11_better 9 = .ok (.goto 10, 3) := by decide +kernel
theorem dX11_better_12 : decode cX11_better 12 = .ok (.aload_n 0, 1) := by decide +kernel
theorem dX11_better_13 : decode cX11_better 13 = .ok (.getfield 90, 3) := by decide +kernel
theorem dX11_better_16 : decode cX11_better 16 = .ok (.invokestatic 217, 3) := by decide +kernel
theorem dX11_better_19 : decode cX11_better 19 = .ok (.ireturn, 1) := by decide +kernel
theorem dX11_count_0 : decode cX11_count 0 = .ok (.iload_n 1, 1) := by decide +kernel
theorem dX11_count_1 : decode cX11_count 1 = .ok (.tableswitch 48 0 2 #[27, 35, 43], 27) := by decide +kernel
theorem dX11_count_28 : decode cX11_count 28 = .ok (.aload_n 0, 1) := by decide +kernel
theorem dX11_count_29 : decode cX11_count 29 = .ok (.getfield 73, 3) := by decide +kernel
theorem dX11_count_32 : decode cX11_count 32 = .ok (.getfield 107, 3) := by decide +kernel
theorem dX11_count_35 : decode cX11_count 35 = .ok (.ireturn, 1) := by decide +kernel
theorem dX11_count_36 : decode cX11_count 36 = .ok (.aload_n 0, 1) := by decide +kernel
theorem dX11_count_37 : decode cX11_count 37 = .ok (.getfield 23, 3) := by decide +kernel
theorem dX11_count_40 : decode cX11_count 40 = .ok (.getfield 139, 3) := by decide +kernel
theorem dX11_count_43 : decode cX11_count 43 = .ok (.ireturn, 1) := by decide +kernel
theorem dX11_count_44 : decode cX11_count 44 = .ok (.aload_n 0, 1) := by decide +kernel
theorem dX11_count_45 : decode cX11_count 45 = .ok (.getfield 80, 3) := by decide +kernel
theorem dX11_count_48 : decode cX11_count 48 = .ok (.ireturn, 1) := by decide +kernel
theorem dX11_count_49 : decode cX11_count 49 = .ok (.iconst (-1), 1) := by decide +kernel
theorem dX11_count_50 : decode cX11_count 50 = .ok (.ireturn, 1) := by decide +kernel
theorem dX11_trouble_0 : decode cX11_trouble 0 = .ok (.aload_n 0, 1) := by decide +kernel
theorem dX11_trouble_1 : decode cX11_trouble 1 = .ok (.getfield 93, 3) := by decide +kernel
theorem dX11_trouble_4 : decode cX11_trouble 4 = .ok (.ireturn, 1) := by decide +kernel
theorem dX11_append_0 : decode cX11_append 0 = .ok (.bipush 24, 2) := by decide +kernel
theorem dX11_append_2 : decode cX11_append 2 = .ok (.istore_n 2, 1) := by decide +kernel
theorem dX11_append_3 : decode cX11_append 3 = .ok (.iload_n 2, 1) := by decide +kernel
theorem dX11_append_4 : decode cX11_append 4 = .ok (.ifCond .lt 45, 3) := by decide +kernel
theorem dX11_append_7 : decode cX11_append 7 = .ok (.aload_n 0, 1) := by decide +kernel
theorem dX11_append_8 : decode cX11_append 8 = .ok (.getfield 80, 3) := by decide +kernel
theorem dX11_append_11 : decode cX11_append 11 = .ok (.sipush 600, 3) := by decide +kernel
theorem dX11_append_14 : decode cX11_append 14 = .ok (.if_icmp .ge 35, 3) := by decide +kernel
theorem dX11_append_17 : decode cX11_append 17 = .ok (.aload_n 0, 1) := by decide +kernel
theorem dX11_append_18 : decode cX11_append 18 = .ok (.getfield 9, 3) := by decide +kernel
theorem dX11_append_21 : decode cX11_append 21 = .ok (.aload_n 0, 1) := by decide +kernel
theorem dX11_append_22 : decode cX11_append 22 = .ok (.getfield 80, 3) := by decide +kernel
theorem dX11_append_25 : decode cX11_append 25 = .ok (.iload_n 1, 1) := by decide +kernel
theorem dX11_append_26 : decode cX11_append 26 = .ok (.iload_n 2, 1) := by decide +kernel
theorem dX11_append_27 : decode cX11_append 27 = .ok (.iushr, 1) := by decide +kernel
theorem dX11_append_28 : decode cX11_append 28 = .ok (.sipush 255, 3) := by decide +kernel
theorem dX11_append_31 : decode cX11_append 31 = .ok (.iand, 1) := by decide +kernel
theorem dX11_append_32 : decode cX11_append 32 = .ok (.iastore, 1) := by decide +kernel
theorem dX11_append_33 : decode cX11_append 33 = .ok (.aload_n 0, 1) := by decide +kernel
theorem dX11_append_34 : decode cX11_append 34 = .ok (.dup, 1) := by decide +kernel
theorem dX11_append_35 : decode cX11_append 35 = .ok (.getfield 80, 3) := by decide +kernel
theorem dX11_append_38 : decode cX11_append 38 = .ok (.iconst 1, 1) := by decide +kernel
theorem dX11_append_39 : decode cX11_append 39 = .ok (.iadd, 1) := by decide +kernel
theorem dX11_append_40 : decode cX11_append 40 = .ok (.putfield 80, 3) := by decide +kernel
theorem dX11_append_43 : decode cX11_append 43 = .ok (.iinc 2 (-8), 3) := by decide +kernel
theorem dX11_append_46 : decode cX11_append 46 = .ok (.goto (-43), 3) := by decide +kernel
theorem dX11_append_49 : decode cX11_append 49 = .ok (.return_, 1) := by decide +kernel
theorem dX11_refuse_0 : decode cX11_refuse 0 = .ok (.aload_n 0, 1) := by decide +kernel
theorem dX11_refuse_1 : decode cX11_refuse 1 = .ok (.iload_n 1, 1) := by decide +kernel
theorem dX11_refuse_2 : decode cX11_refuse 2 = .ok (.putfield 93, 3) := by decide +kernel
theorem dX11_refuse_5 : decode cX11_refuse 5 = .ok (.iconst (-1), 1) := by decide +kernel
theorem dX11_refuse_6 : decode cX11_refuse 6 = .ok (.ireturn, 1) := by decide +kernel
theorem dX11_accept_0 : decode cX11_accept 0 = .ok (.aload_n 0, 1) := by decide +kernel
theorem dX11_accept_1 : decode cX11_accept 1 = .ok (.iconst 0, 1) := by decide +kernel
theorem dX11_accept_2 : decode cX11_accept 2 = .ok (.putfield 93, 3) := by decide +kernel
theorem dX11_accept_5 : decode cX11_accept 5 = .ok (.iload_n 1, 1) := by decide +kernel
theorem dX11_accept_6 : decode cX11_accept 6 = .ok (.ireturn, 1) := by decide +kernel
theorem dX11_refusalOf_0 : decode cX11_refusalOf 0 = .ok (.aload_n 0, 1) := by decide +kernel
theorem dX11_refusalOf_1 : decode cX11_refusalOf 1 = .ok (.getfield 73, 3) := by decide +kernel
theorem dX11_refusalOf_4 : decode cX11_refusalOf 4 = .ok (.getfield 107, 3) := by decide +kernel
theorem dX11_refusalOf_7 : decode cX11_refusalOf 7 = .ok (.ifCond .ne 5, 3) := by decide +kernel
theorem dX11_refusalOf_10 : decode cX11_refusalOf 10 = .ok (.iconst 4, 1) := by decide +kernel
theorem dX11_refusalOf_11 : decode cX11_refusalOf 11 = .ok (.ireturn, 1) := by decide +kernel
theorem dX11_refusalOf_12 : decode cX11_refusalOf 12 = .ok (.iload_n 1, 1) := by decide +kernel
theorem dX11_refusalOf_13 : decode cX11_refusalOf 13 = .ok (.ifCond .lt 20, 3) := by decide +kernel
theorem dX11_refusalOf_16 : decode cX11_refusalOf 16 = .ok (.iload_n 1, 1) := by decide +kernel
theorem dX11_refusalOf_17 : decode cX11_refusalOf 17 = .ok (.iconst 5, 1) := by decide +kernel
theorem dX11_refusalOf_18 : decode cX11_refusalOf 18 = .ok (.if_icmp .ge 15, 3) := by decide +kernel
theorem dX11_refusalOf_21 : decode cX11_refusalOf 21 = .ok (.iload_n 2, 1) := by decide +kernel
theorem dX11_refusalOf_22 : decode cX11_refusalOf 22 = .ok (.iconst 1, 1) := by decide +kernel
theorem dX11_refusalOf_23 : decode cX11_refusalOf 23 = .ok (.if_icmp .lt 10, 3) := by decide +kernel
theorem dX11_refusalOf_26 : decode cX11_refusalOf 26 = .ok (.iload_n 2, 1) := by decide +kernel
theorem dX11_refusalOf_27 : decode cX11_refusalOf 27 = .ok (.sipush 5000, 3) := by decide +kernel
theorem dX11_refusalOf_30 : decode cX11_refusalOf 30 = .ok (.if_icmp .le 5, 3) := by decide +kernel
theorem dX11_refusalOf_33 : decode cX11_refusalOf 33 = .ok (.iconst 1, 1) := by decide +kernel
theorem dX11_refusalOf_34 : decode cX11_refusalOf 34 = .ok (.ireturn, 1) := by decide +kernel
theorem dX11_refusalOf_35 : decode cX11_refusalOf 35 = .ok (.iconst 0, 1) := by decide +kernel
theorem dX11_refusalOf_36 : decode cX11_refusalOf 36 = .ok (.ireturn, 1) := by decide +kernel
theorem dX11_tryOut_0 : decode cX11_tryOut 0 = .ok (.aload_n 0, 1) := by decide +kernel
theorem dX11_tryOut_1 : decode cX11_tryOut 1 = .ok (.getfield 67, 3) := by decide +kernel
theorem dX11_tryOut_4 : decode cX11_tryOut 4 = .ok (.aload_n 0, 1) := by decide +kernel
theorem dX11_tryOut_5 : decode cX11_tryOut 5 = .ok (.getfield 73, 3) := by decide +kernel
theorem dX11_tryOut_8 : decode cX11_tryOut 8 = .ok (.aload_n 0, 1) := by decide +kernel
theorem dX11_tryOut_9 : decode cX11_tryOut 9 = .ok (.iload_n 1, 1) := by decide +kernel
theorem dX11_tryOut_10 : decode cX11_tryOut 10 = .ok (.invokevirtual 156, 3) := by decide +kernel
theorem dX11_tryOut_13 : decode cX11_tryOut 13 = .ok (.iload_n 2, 1) := by decide +kernel
theorem dX11_tryOut_14 : decode cX11_tryOut 14 = .ok (.aload_n 0, 1) := by decide +kernel
theorem dX11_tryOut_15 : decode cX11_tryOut 15 = .ok (.getfield 87, 3) := by decide +kernel
theorem dX11_tryOut_18 : decode cX11_tryOut 18 = .ok (.invokevirtual 160, 3) := by decide +kernel
theorem dX11_tryOut_21 : decode cX11_tryOut 21 = .ok (.aload_n 0, 1) := by decide +kernel
theorem dX11_tryOut_22 : decode cX11_tryOut 22 = .ok (.getfield 67, 3) := by decide +kernel
theorem dX11_tryOut_25 : decode cX11_tryOut 25 = .ok (.getfield 174, 3) := by decide +kernel
theorem dX11_tryOut_28 : decode cX11_tryOut 28 = .ok (.ireturn, 1) := by decide +kernel
theorem dX11_heartNumbered_0 : decode cX11_heartNumbered 0 = .ok (.iload_n 1, 1) := by decide +kernel
theorem dX11_heartNumbered_1 : decode cX11_heartNumbered 1 = .ok (.tableswitch 55 0 4 #[35, 55, 40, 45, 50], 35) := by decide +kernel
theorem dX11_heartNumbered_36 : decode cX11_heartNumbered 36 = .ok (.aload_n 0, 1) := by decide +kernel
theorem dX11_heartNumbered_37 : decode cX11_heartNumbered 37 = .ok (.getfield 32, 3) := by decide +kernel
theorem dX11_heartNumbered_40 : decode cX11_heartNumbered 40 = .ok (.areturn, 1) := by decide +kernel
theorem dX11_heartNumbered_41 : decode cX11_heartNumbered 41 = .ok (.aload_n 0, 1) := by decide +kernel
theorem dX11_heartNumbered_42 : decode cX11_heartNumbered 42 = .ok (.getfield 44, 3) := by decide +kernel
theorem dX11_heartNumbered_45 : decode cX11_heartNumbered 45 = .ok (.areturn, 1) := by decide +kernel
theorem dX11_heartNumbered_46 : decode cX11_heartNumbered 46 = .ok (.aload_n 0, 1) := by decide +kernel
theorem dX11_heartNumbered_47 : decode cX11_heartNumbered 47 = .ok (.getfield 51, 3) := by decide +kernel
theorem dX11_heartNumbered_50 : decode cX11_heartNumbered 50 = .ok (.areturn, 1) := by decide +kernel
theorem dX11_heartNumbered_51 : decode cX11_heartNumbered 51 = .ok (.aload_n 0, 1) := by decide +kernel
theorem dX11_heartNumbered_52 : decode cX11_heartNumbered 52 = .ok (.getfield 57, 3) := by decide +kernel
theorem dX11_heartNumbered_55 : decode cX11_heartNumbered 55 = .ok (.areturn, 1) := by decide +kernel
theorem dX11_heartNumbered_56 : decode cX11_heartNumbered 56 = .ok (.aload_n 0, 1) := by decide +kernel
theorem dX11_heartNumbered_57 : decode cX11_heartNumbered 57 = .ok (.getfield 36, 3) := by decide +kernel
theorem dX11_heartNumbered_60 : decode cX11_heartNumbered 60 = .ok (.areturn, 1) := by decide +kernel
theorem dX11_isKind_0 : decode cX11_isKind 0 = .ok (.iload_n 0, 1) := by decide +kernel
theorem dX11_isKind_1 : decode cX11_isKind 1 = .ok (.ifCond .lt 13, 3) := by decide +kernel
theorem dX11_isKind_4 : decode cX11_isKind 4 = .ok (.iload_n 0, 1) := by decide +kernel
theorem dX11_isKind_5 : decode cX11_isKind 5 = .ok (.bipush 15, 2) := by decide +kernel
theorem dX11_isKind_7 : decode cX11_isKind 7 = .ok (.if_icmp .ge 7, 3) := by decide +kernel
theorem dX11_isKind_10 : decode cX11_isKind 10 = .ok (.iconst 1, 1) := by decide +kernel
theorem dX11_isKind_11 : decode cX11_isKind 11 = .ok (.goto 4, 3) := by decide +kernel
theorem dX11_isKind_14 : decode cX11_isKind 14 = .ok (.iconst 0, 1) := by decide +kernel
theorem dX11_isKind_15 : decode cX11_isKind 15 = .ok (.ireturn, 1) := by decide +kernel
theorem dX11_pairOf_0 : decode cX11_pairOf 0 = .ok (.iload_n 0, 1) := by decide +kernel
theorem dX11_pairOf_1 : decode cX11_pairOf 1 = .ok (.bipush 15, 2) := by decide +kernel
theorem dX11_pairOf_3 : decode cX11_pairOf 3 = .ok (.imul, 1) := by decide +kernel
theorem dX11_pairOf_4 : decode cX11_pairOf 4 = .ok (.iload_n 1, 1) := by decide +kernel
theorem dX11_pairOf_5 : decode cX11_pairOf 5 = .ok (.iadd, 1) := by decide +kernel
theorem dX11_pairOf_6 : decode cX11_pairOf 6 = .ok (.ireturn, 1) := by decide +kernel
theorem dX11_tellPair_0 : decode cX11_tellPair 0 = .ok (.iload_n 0, 1) := by decide +kernel
theorem dX11_tellPair_1 : decode cX11_tellPair 1 = .ok (.bipush 15, 2) := by decide +kernel
theorem dX11_tellPair_3 : decode cX11_tellPair 3 = .ok (.idiv, 1) := by decide +kernel
theorem dX11_tellPair_4 : decode cX11_tellPair 4 = .ok (.bipush 100, 2) := by decide +kernel
theorem dX11_tellPair_6 : decode cX11_tellPair 6 = .ok (.imul, 1) := by decide +kernel
theorem dX11_tellPair_7 : decode cX11_tellPair 7 = .ok (.iload_n 0, 1) := by decide +kernel
theorem dX11_tellPair_8 : decode cX11_tellPair 8 = .ok (.bipush 15, 2) := by decide +kernel
theorem dX11_tellPair_10 : decode cX11_tellPair 10 = .ok (.irem, 1) := by decide +kernel
theorem dX11_tellPair_11 : decode cX11_tellPair 11 = .ok (.iadd, 1) := by decide +kernel
theorem dX11_tellPair_12 : decode cX11_tellPair 12 = .ok (.ireturn, 1) := by decide +kernel
theorem dX12_init_0 : decode cX12_init 0 = .ok (.aload_n 0, 1) := by decide +kernel
theorem dX12_init_1 : decode cX12_init 1 = .ok (.invokespecial 3, 3) := by decide +kernel
theorem dX12_init_4 : decode cX12_init 4 = .ok (.aload_n 0, 1) := by decide +kernel
theorem dX12_init_5 : decode cX12_init 5 = .ok (.bipush 100, 2) := by decide +kernel
theorem dX12_init_7 : decode cX12_init 7 = .ok (.newarray .int, 2) := by decide +kernel
theorem dX12_init_9 : decode cX12_init 9 = .ok (.putfield 9, 3) := by decide +kernel
theorem dX12_init_12 : decode cX12_init 12 = .ok (.aload_n 0, 1) := by decide +kernel
theorem dX12_init_13 : decode cX12_init 13 = .ok (.bipush 100, 2) := by decide +kernel
theorem dX12_init_15 : decode cX12_init 15 = .ok (.newarray .int, 2) := by decide +kernel
theorem dX12_init_17 : decode cX12_init 17 = .ok (.putfield 15, 3) := by decide +kernel
theorem dX12_init_20 : decode cX12_init 20 = .ok (.aload_n 0, 1) := by decide +kernel
theorem dX12_init_21 : decode cX12_init 21 = .ok (.bipush 100, 2) := by decide +kernel
theorem dX12_init_23 : decode cX12_init 23 = .ok (.newarray .int, 2) := by decide +kernel
theorem dX12_init_25 : decode cX12_init 25 = .ok (.putfield 18, 3) := by decide +kernel
theorem dX12_init_28 : decode cX12_init 28 = .ok (.aload_n 0, 1) := by decide +kernel
theorem dX12_init_29 : decode cX12_init 29 = .ok (.bipush 101, 2) := by decide +kernel
theorem dX12_init_31 : decode cX12_init 31 = .ok (.newarray .int, 2) := by decide +kernel
theorem dX12_init_33 : decode cX12_init 33 = .ok (.putfield 21, 3) := by decide +kernel
theorem dX12_init_36 : decode cX12_init 36 = .ok (.aload_n 0, 1) := by decide +kernel
theorem dX12_init_37 : decode cX12_init 37 = .ok (.bipush 100, 2) := by decide +kernel
theorem dX12_init_39 : decode cX12_init 39 = .ok (.newarray .long, 2) := by decide +kernel
theorem dX12_init_41 : decode cX12_init 41 = .ok (.putfield 24, 3) := by decide +kernel
theorem dX12_init_44 : decode cX12_init 44 = .ok (.aload_n 0, 1) := by decide +kernel
theorem dX12_init_45 : decode cX12_init 45 = .ok (.bipush 101, 2) := by decide +kernel
theorem dX12_init_47 : decode cX12_init 47 = .ok (.newarray .long, 2) := by decide +kernel
theorem dX12_init_49 : decode cX12_init 49 = .ok (.putfield 28, 3) := by decide +kernel
theorem dX12_init_52 : decode cX12_init 52 = .ok (.aload_n 0, 1) := by decide +kernel
theorem dX12_init_53 : decode cX12_init 53 = .ok (.bipush 101, 2) := by decide +kernel
theorem dX12_init_55 : decode cX12_init 55 = .ok (.newarray .boolean, 2) := by decide +kernel
theorem dX12_init_57 : decode cX12_init 57 = .ok (.putfield 31, 3) := by decide +kernel
theorem dX12_init_60 : decode cX12_init 60 = .ok (.return_, 1) := by decide +kernel
theorem dX12_find_0 : decode cX12_find 0 = .ok (.iconst 0, 1) := by decide +kernel
theorem dX12_find_1 : decode cX12_find 1 = .ok (.istore_n 3, 1) := by decide +kernel
theorem dX12_find_2 : decode cX12_find 2 = .ok (.iload_n 3, 1) := by decide +kernel
theorem dX12_find_3 : decode cX12_find 3 = .ok (.aload_n 0, 1) := by decide +kernel
theorem dX12_find_4 : decode cX12_find 4 = .ok (.getfield 35, 3) := by decide +kernel
theorem dX12_find_7 : decode cX12_find 7 = .ok (.if_icmp .ge 20, 3) := by decide +kernel
theorem dX12_find_10 : decode cX12_find 10 = .ok (.aload_n 0, 1) := by decide +kernel
theorem dX12_find_11 : decode cX12_find 11 = .ok (.getfield 28, 3) := by decide +kernel
theorem dX12_find_14 : decode cX12_find 14 = .ok (.iload_n 3, 1) := by decide +kernel
theorem dX12_find_15 : decode cX12_find 15 = .ok (.laload, 1) := by decide +kernel
theorem dX12_find_16 : decode cX12_find 16 = .ok (.lload_n 1, 1) := by decide +kernel
theorem dX12_find_17 : decode cX12_find 17 = .ok (.lcmp, 1) := by decide +kernel
theorem dX12_find_18 : decode cX12_find 18 = .ok (.ifCond .eq 9, 3) := by decide +kernel
theorem dX12_find_21 : decode cX12_find 21 = .ok (.iinc 3 1, 3) := by decide +kernel
theorem dX12_find_24 : decode cX12_find 24 = .ok (.goto (-22), 3) := by decide +kernel
theorem dX12_find_27 : decode cX12_find 27 = .ok (.iload_n 3, 1) := by decide +kernel
theorem dX12_find_28 : decode cX12_find 28 = .ok (.aload_n 0, 1) := by decide +kernel
theorem dX12_find_29 : decode cX12_find 29 = .ok (.getfield 35, 3) := by decide +kernel
theorem dX12_find_32 : decode cX12_find 32 = .ok (.if_icmp .ge 12, 3) := by decide +kernel
theorem dX12_find_35 : decode cX12_find 35 = .ok (.aload_n 0, 1) := by decide +kernel
theorem dX12_find_36 : decode cX12_find 36 = .ok (.getfield 21, 3) := by decide +kernel
theorem dX12_find_39 : decode cX12_find 39 = .ok (.iload_n 3, 1) := by decide +kernel
theorem dX12_find_40 : decode cX12_find 40 = .ok (.iaload, 1) := by decide +kernel
theorem dX12_find_41 : decode cX12_find 41 = .ok (.goto 4, 3) := by decide +kernel
theorem dX12_find_44 : decode cX12_find 44 = .ok (.iconst (-1), 1) := by decide +kernel
theorem dX12_find_45 : decode cX12_find 45 = .ok (.ireturn, 1) := by decide +kernel
theorem dX13_init_0 : decode cX13_init 0 = .ok (.aload_n 0, 1) := by decide +kernel
theorem dX13_init_1 : decode cX13_init 1 = .ok (.aconst_null, 1) := by decide +kernel
theorem dX13_init_2 : decode cX13_init 2 = .ok (.aconst_null, 1) := by decide +kernel
theorem dX13_init_3 : decode cX13_init 3 = .ok (.iconst 0, 1) := by decide +kernel
theorem dX13_init_4 : decode cX13_init 4 = .ok (.iconst 0, 1) := by decide +kernel
theorem dX13_init_5 : decode cX13_init 5 = .ok (.invokespecial 1, 3) := by decide +kernel
theorem dX13_init_8 : decode cX13_init 8 = .ok (.return_, 1) := by decide +kernel
theorem dX14_init_0 : decode cX14_init 0 = .ok (.aload_n 0, 1) := by decide +kernel
theorem dX14_init_1 : decode cX14_init 1 = .ok (.invokespecial 1, 3) := by decide +kernel
theorem dX14_init_4 : decode cX14_init 4 = .ok (.aload_n 0, 1) := by decide +kernel
theorem dX14_init_5 : decode cX14_init 5 = .ok (.iconst (-1), 1) := by decide +kernel
theorem dX14_init_6 : decode cX14_init 6 = .ok (.putfield 9, 3) := by decide +kernel
theorem dX14_init_9 : decode cX14_init 9 = .ok (.aload_n 0, 1) := by decide +kernel
theorem dX14_init_10 : decode cX14_init 10 = .ok (.new 13, 3) := by decide +kernel
theorem dX14_init_13 : decode cX14_init 13 = .ok (.dup, 1) := by decide +kernel
theorem dX14_init_14 : decode cX14_init 14 = .ok (.invokespecial 15, 3) := by decide +kernel
theorem dX14_init_17 : decode cX14_init 17 = .ok (.putfield 16, 3) := by decide +kernel
theorem dX14_init_20 : decode cX14_init 20 = .ok (.aload_n 0, 1) := by decide +kernel
theorem dX14_init_21 : decode cX14_init 21 = .ok (.new 13, 3) := by decide +kernel
theorem dX14_init_24 : decode cX14_init 24 = .ok (.dup, 1) := by decide +kernel
theorem dX14_init_25 : decode cX14_init 25 = .ok (.invokespecial 15, 3) := by decide +kernel
theorem dX14_init_28 : decode cX14_init 28 = .ok (.putfield 20, 3) := by decide +kernel
theorem dX14_init_31 : decode cX14_init 31 = .ok (.aload_n 0, 1) := by decide +kernel
theorem dX14_init_32 : decode cX14_init 32 = .ok (.new 23, 3) := by decide +kernel
theorem dX14_init_35 : decode cX14_init 35 = .ok (.dup, 1) := by decide +kernel
theorem dX14_init_36 : decode cX14_init 36 = .ok (.invokespecial 25, 3) := by decide +kernel
theorem dX14_init_39 : decode cX14_init 39 = .ok (.putfield 26, 3) := by decide +kernel
theorem dX14_init_42 : decode cX14_init 42 = .ok (.aload_n 0, 1) := by decide +kernel
theorem dX14_init_43 : decode cX14_init 43 = .ok (.sipush 600, 3) := by decide +kernel
theorem dX14_init_46 : decode cX14_init 46 = .ok (.newarray .byte, 2) := by decide +kernel
theorem dX14_init_48 : decode cX14_init 48 = .ok (.putfield 30, 3) := by decide +kernel
theorem dX14_init_51 : decode cX14_init 51 = .ok (.aload_n 0, 1) := by decide +kernel
theorem dX14_init_52 : decode cX14_init 52 = .ok (.bipush 15, 2) := by decide +kernel
theorem dX14_init_54 : decode cX14_init 54 = .ok (.anewarray 34, 3) := by decide +kernel
theorem dX14_init_57 : decode cX14_init 57 = .ok (.dup, 1) := by decide +kernel
theorem dX14_init_58 : decode cX14_init 58 = .ok (.iconst 0, 1) := by decide +kernel
theorem dX14_init_59 : decode cX14_init 59 = .ok (.ldc 36, 2) := by decide +kernel
theorem dX14_init_61 : decode cX14_init 61 = .ok (.aastore, 1) := by decide +kernel
theorem dX14_init_62 : decode cX14_init 62 = .ok (.dup, 1) := by decide +kernel
theorem dX14_init_63 : decode cX14_init 63 = .ok (.iconst 1, 1) := by decide +kernel
theorem dX14_init_64 : decode cX14_init 64 = .ok (.ldc 38, 2) := by decide +kernel
theorem dX14_init_66 : decode cX14_init 66 = .ok (.aastore, 1) := by decide +kernel
theorem dX14_init_67 : decode cX14_init 67 = .ok (.dup, 1) := by decide +kernel
theorem dX14_init_68 : decode cX14_init 68 = .ok (.iconst 2, 1) := by decide +kernel
theorem dX14_init_69 : decode cX14_init 69 = .ok (.ldc 40, 2) := by decide +kernel
theorem dX14_init_71 : decode cX14_init 71 = .ok (.aastore, 1) := by decide +kernel
theorem dX14_init_72 : decode cX14_init 72 = .ok (.dup, 1) := by decide +kernel
theorem dX14_init_73 : decode cX14_init 73 = .ok (.iconst 3, 1) := by decide +kernel
theorem dX14_init_74 : decode cX14_init 74 = .ok (.ldc 42, 2) := by decide +kernel
theorem dX14_init_76 : decode cX14_init 76 = .ok (.aastore, 1) := by decide +kernel
theorem dX14_init_77 : decode cX14_init 77 = .ok (.dup, 1) := by decide +kernel
theorem dX14_init_78 : decode cX14_init 78 = .ok (.iconst 4, 1) := by decide +kernel
theorem dX14_init_79 : decode cX14_init 79 = .ok (.ldc 44, 2) := by decide +kernel
theorem dX14_init_81 : decode cX14_init 81 = .ok (.aastore, 1) := by decide +kernel
theorem dX14_init_82 : decode cX14_init 82 = .ok (.dup, 1) := by decide +kernel
theorem dX14_init_83 : decode cX14_init 83 = .ok (.iconst 5, 1) := by decide +kernel
theorem dX14_init_84 : decode cX14_init 84 = .ok (.ldc 46, 2) := by decide +kernel
theorem dX14_init_86 : decode cX14_init 86 = .ok (.aastore, 1) := by decide +kernel
theorem dX14_init_87 : decode cX14_init 87 = .ok (.dup, 1) := by decide +kernel
theorem dX14_init_88 : decode cX14_init 88 = .ok (.bipush 6, 2) := by decide +kernel
theorem dX14_init_90 : decode cX14_init 90 = .ok (.ldc 48, 2) := by decide +kernel
theorem dX14_init_92 : decode cX14_init 92 = .ok (.aastore, 1) := by decide +kernel
theorem dX14_init_93 : decode cX14_init 93 = .ok (.dup, 1) := by decide +kernel
theorem dX14_init_94 : decode cX14_init 94 = .ok (.bipush 7, 2) := by decide +kernel
theorem dX14_init_96 : decode cX14_init 96 = .ok (.ldc 50, 2) := by decide +kernel
theorem dX14_init_98 : decode cX14_init 98 = .ok (.aastore, 1) := by decide +kernel
theorem dX14_init_99 : decode cX14_init 99 = .ok (.dup, 1) := by decide +kernel
theorem dX14_init_100 : decode cX14_init 100 = .ok (.bipush 8, 2) := by decide +kernel
theorem dX14_init_102 : decode cX14_init 102 = .ok (.ldc 52, 2) := by decide +kernel
theorem dX14_init_104 : decode cX14_init 104 = .ok (.aastore, 1) := by decide +kernel
theorem dX14_init_105 : decode cX14_init 105 = .ok (.dup, 1) := by decide +kernel
theorem dX14_init_106 : decode cX14_init 106 = .ok (.bipush 9, 2) := by decide +kernel
theorem dX14_init_108 : decode cX14_init 108 = .ok (.ldc 54, 2) := by decide +kernel
theorem dX14_init_110 : decode cX14_init 110 = .ok (.aastore, 1) := by decide +kernel
theorem dX14_init_111 : decode cX14_init 111 = .ok (.dup, 1) := by decide +kernel
