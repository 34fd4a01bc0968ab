theorem dX14_pile_12 : decode cX14_pile 12 = .ok (.iload_n 1, 1) := by decide +kernel
theorem dX14_pile_13 : decode cX14_pile 13 = .ok (.aload_n 0, 1) := by decide +kernel
theorem dX14_pile_14 : decode cX14_pile 14 = .ok (.getfield 335, 3) := by decide +kernel
theorem dX14_pile_17 : decode cX14_pile 17 = .ok (.if_icmp .lt 7, 3) := by decide +kernel
theorem dX14_pile_20 : decode cX14_pile 20 = .ok (.iconst 1, 1) := by decide +kernel
theorem dX14_pile_21 : decode cX14_pile 21 = .ok (.goto 4, 3) := by decide +kernel
theorem dX14_pile_24 : decode cX14_pile 24 = .ok (.iconst 0, 1) := by decide +kernel
theorem dX14_pile_25 : decode cX14_pile 25 = .ok (.putfield 129, 3) := by decide +kernel
theorem dX14_pile_28 : decode cX14_pile 28 = .ok (.aload_n 0, 1) := by decide +kernel
theorem dX14_pile_29 : decode cX14_pile 29 = .ok (.getfield 129, 3) := by decide +kernel
theorem dX14_pile_32 : decode cX14_pile 32 = .ok (.ifCond .le 7, 3) := by decide +kernel
theorem dX14_pile_35 : decode cX14_pile 35 = .ok (.iconst 0, 1) := by decide +kernel
theorem dX14_pile_36 : decode cX14_pile 36 = .ok (.goto 9, 3) := by decide +kernel
theorem dX14_pile_39 : decode cX14_pile 39 = .ok (.aload_n 0, 1) := by decide +kernel
theorem dX14_pile_40 : decode cX14_pile 40 = .ok (.getfield 105, 3) := by decide +kernel
theorem dX14_pile_43 : decode cX14_pile 43 = .ok (.iload_n 1, 1) := by decide +kernel
theorem dX14_pile_44 : decode cX14_pile 44 = .ok (.iaload, 1) := by decide +kernel
theorem dX14_pile_45 : decode cX14_pile 45 = .ok (.ireturn, 1) := by decide +kernel
theorem dX14_cell_0 : decode cX14_cell 0 = .ok (.aload_n 0, 1) := by decide +kernel
theorem dX14_cell_1 : decode cX14_cell 1 = .ok (.iconst 0, 1) := by decide +kernel
theorem dX14_cell_2 : decode cX14_cell 2 = .ok (.putfield 129, 3) := by decide +kernel
theorem dX14_cell_5 : decode cX14_cell 5 = .ok (.iload_n 1, 1) := by decide +kernel
theorem dX14_cell_6 : decode cX14_cell 6 = .ok (.iconst 0, 1) := by decide +kernel
theorem dX14_cell_7 : decode cX14_cell 7 = .ok (.bipush 7, 2) := by decide +kernel
theorem dX14_cell_9 : decode cX14_cell 9 = .ok (.invokestatic 252, 3) := by decide +kernel
theorem dX14_cell_12 : decode cX14_cell 12 = .ok (.ifCond .eq 12, 3) := by decide +kernel
theorem dX14_cell_15 : decode cX14_cell 15 = .ok (.aload_n 0, 1) := by decide +kernel
theorem dX14_cell_16 : decode cX14_cell 16 = .ok (.getfield 108, 3) := by decide +kernel
theorem dX14_cell_19 : decode cX14_cell 19 = .ok (.iload_n 1, 1) := by decide +kernel
theorem dX14_cell_20 : decode cX14_cell 20 = .ok (.iaload, 1) := by decide +kernel
theorem dX14_cell_21 : decode cX14_cell 21 = .ok (.goto 4, 3) := by decide +kernel
theorem dX14_cell_24 : decode cX14_cell 24 = .ok (.iconst 0, 1) := by decide +kernel
theorem dX14_cell_25 : decode cX14_cell 25 = .ok (.ireturn, 1) := by decide +kernel
theorem dX14_did_0 : decode cX14_did 0 = .ok (.aload_n 0, 1) := by decide +kernel
theorem dX14_did_1 : decode cX14_did 1 = .ok (.iconst 0, 1) := by decide +kernel
theorem dX14_did_2 : decode cX14_did 2 = .ok (.putfield 129, 3) := by decide +kernel
theorem dX14_did_5 : decode cX14_did 5 = .ok (.aload_n 0, 1) := by decide +kernel
theorem dX14_did_6 : decode cX14_did 6 = .ok (.getfield 317, 3) := by decide +kernel
theorem dX14_did_9 : decode cX14_did 9 = .ok (.ifCond .eq 22, 3) := by decide +kernel
theorem dX14_did_12 : decode cX14_did 12 = .ok (.iload_n 1, 1) := by decide +kernel
theorem dX14_did_13 : decode cX14_did 13 = .ok (.iconst 0, 1) := by decide +kernel
theorem dX14_did_14 : decode cX14_did 14 = .ok (.bipush 14, 2) := by decide +kernel
theorem dX14_did_16 : decode cX14_did 16 = .ok (.invokestatic 252, 3) := by decide +kernel
theorem dX14_did_19 : decode cX14_did 19 = .ok (.ifCond .eq 12, 3) := by decide +kernel
theorem dX14_did_22 : decode cX14_did 22 = .ok (.aload_n 0, 1) := by decide +kernel
theorem dX14_did_23 : decode cX14_did 23 = .ok (.getfield 114, 3) := by decide +kernel
theorem dX14_did_26 : decode cX14_did 26 = .ok (.iload_n 1, 1) := by decide +kernel
theorem dX14_did_27 : decode cX14_did 27 = .ok (.iaload, 1) := by decide +kernel
theorem dX14_did_28 : decode cX14_did 28 = .ok (.goto 4, 3) := by decide +kernel
theorem dX14_did_31 : decode cX14_did 31 = .ok (.iconst (-1), 1) := by decide +kernel
theorem dX14_did_32 : decode cX14_did 32 = .ok (.ireturn, 1) := by decide +kernel
theorem dX14_follows_0 : decode cX14_follows 0 = .ok (.aload_n 0, 1) := by decide +kernel
theorem dX14_follows_1 : decode cX14_follows 1 = .ok (.iconst 0, 1) := by decide +kernel
theorem dX14_follows_2 : decode cX14_follows 2 = .ok (.putfield 129, 3) := by decide +kernel
theorem dX14_follows_5 : decode cX14_follows 5 = .ok (.aload_n 0, 1) := by decide +kernel
theorem dX14_follows_6 : decode cX14_follows 6 = .ok (.getfield 317, 3) := by decide +kernel
theorem dX14_follows_9 : decode cX14_follows 9 = .ok (.ifCond .eq 37, 3) := by decide +kernel
theorem dX14_follows_12 : decode cX14_follows 12 = .ok (.iload_n 1, 1) := by decide +kernel
theorem dX14_follows_13 : decode cX14_follows 13 = .ok (.iconst 0, 1) := by decide +kernel
theorem dX14_follows_14 : decode cX14_follows 14 = .ok (.bipush 14, 2) := by decide +kernel
theorem dX14_follows_16 : decode cX14_follows 16 = .ok (.invokestatic 252, 3) := by decide +kernel
theorem dX14_follows_19 : decode cX14_follows 19 = .ok (.ifCond .eq 27, 3) := by decide +kernel
theorem dX14_follows_22 : decode cX14_follows 22 = .ok (.iload_n 2, 1) := by decide +kernel
theorem dX14_follows_23 : decode cX14_follows 23 = .ok (.iconst 0, 1) := by decide +kernel
theorem dX14_follows_24 : decode cX14_follows 24 = .ok (.bipush 14, 2) := by decide +kernel
theorem dX14_follows_26 : decode cX14_follows 26 = .ok (.invokestatic 252, 3) := by decide +kernel
theorem dX14_follows_29 : decode cX14_follows 29 = .ok (.ifCond .eq 17, 3) := by decide +kernel
theorem dX14_follows_32 : decode cX14_follows 32 = .ok (.aload_n 0, 1) := by decide +kernel
theorem dX14_follows_33 : decode cX14_follows 33 = .ok (.getfield 117, 3) := by decide +kernel
theorem dX14_follows_36 : decode cX14_follows 36 = .ok (.bipush 15, 2) := by decide +kernel
theorem dX14_follows_38 : decode cX14_follows 38 = .ok (.iload_n 1, 1) := by decide +kernel
theorem dX14_follows_39 : decode cX14_follows 39 = .ok (.imul, 1) := by decide +kernel
theorem dX14_follows_40 : decode cX14_follows 40 = .ok (.iload_n 2, 1) := by decide +kernel
theorem dX14_follows_41 : decode cX14_follows 41 = .ok (.iadd, 1) := by decide +kernel
theorem dX14_follows_42 : decode cX14_follows 42 = .ok (.iaload, 1) := by decide +kernel
theorem dX14_follows_43 : decode cX14_follows 43 = .ok (.goto 4, 3) := by decide +kernel
theorem dX14_follows_46 : decode cX14_follows 46 = .ok (.iconst (-1), 1) := by decide +kernel
theorem dX14_follows_47 : decode cX14_follows 47 = .ok (.ireturn, 1) := by decide +kernel
theorem dX14_most_0 : decode cX14_most 0 = .ok (.aload_n 0, 1) := by decide +kernel
theorem dX14_most_1 : decode cX14_most 1 = .ok (.iconst 0, 1) := by decide +kernel
theorem dX14_most_2 : decode cX14_most 2 = .ok (.putfield 129, 3) := by decide +kernel
theorem dX14_most_5 : decode cX14_most 5 = .ok (.aload_n 0, 1) := by decide +kernel
theorem dX14_most_6 : decode cX14_most 6 = .ok (.getfield 317, 3) := by decide +kernel
theorem dX14_most_9 : decode cX14_most 9 = .ok (.ifCond .ne 9, 3) := by decide +kernel
theorem dX14_most_12 : decode cX14_most 12 = .ok (.aload_n 0, 1) := by decide +kernel
theorem dX14_most_13 : decode cX14_most 13 = .ok (.iconst 5, 1) := by decide +kernel
theorem dX14_most_14 : decode cX14_most 14 = .ok (.invokevirtual 234, 3) := by decide +kernel
theorem dX14_most_17 : decode cX14_most 17 = .ok (.ireturn, 1) := by decide +kernel
theorem dX14_most_18 : decode cX14_most 18 = .ok (.iconst 0, 1) := by decide +kernel
theorem dX14_most_19 : decode cX14_most 19 = .ok (.istore_n 1, 1) := by decide +kernel
theorem dX14_most_20 : decode cX14_most 20 = .ok (.iconst 1, 1) := by decide +kernel
theorem dX14_most_21 : decode cX14_most 21 = .ok (.istore_n 2, 1) := by decide +kernel
theorem dX14_most_22 : decode cX14_most 22 = .ok (.iload_n 2, 1) := by decide +kernel
theorem dX14_most_23 : decode cX14_most 23 = .ok (.sipush 225, 3) := by decide +kernel
theorem dX14_most_26 : decode cX14_most 26 = .ok (.if_icmp .ge 26, 3) := by decide +kernel
theorem dX14_most_29 : decode cX14_most 29 = .ok (.aload_n 0, 1) := by decide +kernel
theorem dX14_most_30 : decode cX14_most 30 = .ok (.getfield 117, 3) := by decide +kernel
theorem dX14_most_33 : decode cX14_most 33 = .ok (.iload_n 2, 1) := by decide +kernel
theorem dX14_most_34 : decode cX14_most 34 = .ok (.iaload, 1) := by decide +kernel
theorem dX14_most_35 : decode cX14_most 35 = .ok (.aload_n 0, 1) := by decide +kernel
theorem dX14_most_36 : decode cX14_most 36 = .ok (.getfield 117, 3) := by decide +kernel
theorem dX14_most_39 : decode cX14_most 39 = .ok (.iload_n 1, 1) := by decide +kernel
theorem dX14_most_40 : decode cX14_most 40 = .ok (.iaload, 1) := by decide +kernel
theorem dX14_most_41 : decode cX14_most 41 = .ok (.if_icmp .le 5, 3) := by decide +kernel
theorem dX14_most_44 : decode cX14_most 44 = .ok (.iload_n 2, 1) := by decide +kernel
theorem dX14_most_45 : decode cX14_most 45 = .ok (.istore_n 1, 1) := by decide +kernel
theorem dX14_most_46 : decode cX14_most 46 = .ok (.iinc 2 1, 3) := by decide +kernel
theorem dX14_most_49 : decode cX14_most 49 = .ok (.goto (-27), 3) := by decide +kernel
theorem dX14_most_52 : decode cX14_most 52 = .ok (.aload_n 0, 1) := by decide +kernel
theorem dX14_most_53 : decode cX14_most 53 = .ok (.aload_n 0, 1) := by decide +kernel
theorem dX14_most_54 : decode cX14_most 54 = .ok (.getfield 117, 3) := by decide +kernel
theorem dX14_most_57 : decode cX14_most 57 = .ok (.iload_n 1, 1) := by decide +kernel
theorem dX14_most_58 : decode cX14_most 58 = .ok (.iaload, 1) := by decide +kernel
theorem dX14_most_59 : decode cX14_most 59 = .ok (.ifCond .ne 8, 3) := by decide +kernel
theorem dX14_most_62 : decode cX14_most 62 = .ok (.bipush (-2), 2) := by decide +kernel
theorem dX14_most_64 : decode cX14_most 64 = .ok (.goto 15, 3) := by decide +kernel
theorem dX14_most_67 : decode cX14_most 67 = .ok (.bipush 100, 2) := by decide +kernel
theorem dX14_most_69 : decode cX14_most 69 = .ok (.iload_n 1, 1) := by decide +kernel
theorem dX14_most_70 : decode cX14_most 70 = .ok (.bipush 15, 2) := by decide +kernel
theorem dX14_most_72 : decode cX14_most 72 = .ok (.idiv, 1) := by decide +kernel
theorem dX14_most_73 : decode cX14_most 73 = .ok (.imul, 1) := by decide +kernel
theorem dX14_most_74 : decode cX14_most 74 = .ok (.iload_n 1, 1) := by decide +kernel
theorem dX14_most_75 : decode cX14_most 75 = .ok (.bipush 15, 2) := by decide +kernel
theorem dX14_most_77 : decode cX14_most 77 = .ok (.irem, 1) := by decide +kernel
theorem dX14_most_78 : decode cX14_most 78 = .ok (.iadd, 1) := by decide +kernel
theorem dX14_most_79 : decode cX14_most 79 = .ok (.invokevirtual 246, 3) := by decide +kernel
theorem dX14_most_82 : decode cX14_most 82 = .ok (.ireturn, 1) := by decide +kernel
theorem dX14_traces_0 : decode cX14_traces 0 = .ok (.aload_n 0, 1) := by decide +kernel
theorem dX14_traces_1 : decode cX14_traces 1 = .ok (.iconst 0, 1) := by decide +kernel
theorem dX14_traces_2 : decode cX14_traces 2 = .ok (.putfield 129, 3) := by decide +kernel
theorem dX14_traces_5 : decode cX14_traces 5 = .ok (.aload_n 0, 1) := by decide +kernel
theorem dX14_traces_6 : decode cX14_traces 6 = .ok (.getfield 317, 3) := by decide +kernel
theorem dX14_traces_9 : decode cX14_traces 9 = .ok (.ifCond .eq 14, 3) := by decide +kernel
theorem dX14_traces_12 : decode cX14_traces 12 = .ok (.aload_n 0, 1) := by decide +kernel
theorem dX14_traces_13 : decode cX14_traces 13 = .ok (.aload_n 0, 1) := by decide +kernel
theorem dX14_traces_14 : decode cX14_traces 14 = .ok (.getfield 347, 3) := by decide +kernel
theorem dX14_traces_17 : decode cX14_traces 17 = .ok (.invokevirtual 246, 3) := by decide +kernel
theorem dX14_traces_20 : decode cX14_traces 20 = .ok (.goto 8, 3) := by decide +kernel
theorem dX14_traces_23 : decode cX14_traces 23 = .ok (.aload_n 0, 1) := by decide +kernel
theorem dX14_traces_24 : decode cX14_traces 24 = .ok (.iconst 5, 1) := by decide +kernel
theorem dX14_traces_25 : decode cX14_traces 25 = .ok (.invokevirtual 234, 3) := by decide +kernel
theorem dX14_traces_28 : decode cX14_traces 28 = .ok (.ireturn, 1) := by decide +kernel
theorem dX14_trace_0 : decode cX14_trace 0 = .ok (.aload_n 0, 1) := by decide +kernel
theorem dX14_trace_1 : decode cX14_trace 1 = .ok (.iconst 0, 1) := by decide +kernel
theorem dX14_trace_2 : decode cX14_trace 2 = .ok (.putfield 129, 3) := by decide +kernel
theorem dX14_trace_5 : decode cX14_trace 5 = .ok (.aload_n 0, 1) := by decide +kernel
theorem dX14_trace_6 : decode cX14_trace 6 = .ok (.getfield 317, 3) := by decide +kernel
theorem dX14_trace_9 : decode cX14_trace 9 = .ok (.ifCond .eq 24, 3) := by decide +kernel
theorem dX14_trace_12 : decode cX14_trace 12 = .ok (.iload_n 1, 1) := by decide +kernel
theorem dX14_trace_13 : decode cX14_trace 13 = .ok (.ifCond .lt 20, 3) := by decide +kernel
theorem dX14_trace_16 : decode cX14_trace 16 = .ok (.iload_n 1, 1) := by decide +kernel
theorem dX14_trace_17 : decode cX14_trace 17 = .ok (.aload_n 0, 1) := by decide +kernel
theorem dX14_trace_18 : decode cX14_trace 18 = .ok (.getfield 320, 3) := by decide +kernel
theorem dX14_trace_21 : decode cX14_trace 21 = .ok (.if_icmp .ge 12, 3) := by decide +kernel
theorem dX14_trace_24 : decode cX14_trace 24 = .ok (.aload_n 0, 1) := by decide +kernel
theorem dX14_trace_25 : decode cX14_trace 25 = .ok (.getfield 120, 3) := by decide +kernel
theorem dX14_trace_28 : decode cX14_trace 28 = .ok (.iload_n 1, 1) := by decide +kernel
theorem dX14_trace_29 : decode cX14_trace 29 = .ok (.iaload, 1) := by decide +kernel
theorem dX14_trace_30 : decode cX14_trace 30 = .ok (.goto 4, 3) := by decide +kernel
theorem dX14_trace_33 : decode cX14_trace 33 = .ok (.iconst (-1), 1) := by decide +kernel
theorem dX14_trace_34 : decode cX14_trace 34 = .ok (.ireturn, 1) := by decide +kernel
theorem dX14_cost_0 : decode cX14_cost 0 = .ok (.aload_n 0, 1) := by decide +kernel
theorem dX14_cost_1 : decode cX14_cost 1 = .ok (.iconst 0, 1) := by decide +kernel
theorem dX14_cost_2 : decode cX14_cost 2 = .ok (.putfield 129, 3) := by decide +kernel
theorem dX14_cost_5 : decode cX14_cost 5 = .ok (.aload_n 0, 1) := by decide +kernel
theorem dX14_cost_6 : decode cX14_cost 6 = .ok (.iload_n 1, 1) := by decide +kernel
theorem dX14_cost_7 : decode cX14_cost 7 = .ok (.iload_n 2, 1) := by decide +kernel
theorem dX14_cost_8 : decode cX14_cost 8 = .ok (.invokevirtual 310, 3) := by decide +kernel
theorem dX14_cost_11 : decode cX14_cost 11 = .ok (.ifCond .le 14, 3) := by decide +kernel
theorem dX14_cost_14 : decode cX14_cost 14 = .ok (.aload_n 0, 1) := by decide +kernel
theorem dX14_cost_15 : decode cX14_cost 15 = .ok (.aload_n 0, 1) := by decide +kernel
theorem dX14_cost_16 : decode cX14_cost 16 = .ok (.iload_n 1, 1) := by decide +kernel
theorem dX14_cost_17 : decode cX14_cost 17 = .ok (.iload_n 2, 1) := by decide +kernel
theorem dX14_cost_18 : decode cX14_cost 18 = .ok (.invokevirtual 310, 3) := by decide +kernel
theorem dX14_cost_21 : decode cX14_cost 21 = .ok (.invokevirtual 234, 3) := by decide +kernel
theorem dX14_cost_24 : decode cX14_cost 24 = .ok (.ireturn, 1) := by decide +kernel
theorem dX14_cost_25 : decode cX14_cost 25 = .ok (.aload_n 0, 1) := by decide +kernel
theorem dX14_cost_26 : decode cX14_cost 26 = .ok (.iload_n 2, 1) := by decide +kernel
theorem dX14_cost_27 : decode cX14_cost 27 = .ok (.invokevirtual 313, 3) := by decide +kernel
theorem dX14_cost_30 : decode cX14_cost 30 = .ok (.aload_n 0, 1) := by decide +kernel
theorem dX14_cost_31 : decode cX14_cost 31 = .ok (.aload_n 0, 1) := by decide +kernel
theorem dX14_cost_32 : decode cX14_cost 32 = .ok (.iload_n 1, 1) := by decide +kernel
theorem dX14_cost_33 : decode cX14_cost 33 = .ok (.invokevirtual 326, 3) := by decide +kernel
theorem dX14_cost_36 : decode cX14_cost 36 = .ok (.invokevirtual 246, 3) := by decide +kernel
theorem dX14_cost_39 : decode cX14_cost 39 = .ok (.ireturn, 1) := by decide +kernel
theorem dX14_cheapest_0 : decode cX14_cheapest 0 = .ok (.aload_n 0, 1) := by decide +kernel
theorem dX14_cheapest_1 : decode cX14_cheapest 1 = .ok (.iconst 0, 1) := by decide +kernel
theorem dX14_cheapest_2 : decode cX14_cheapest 2 = .ok (.putfield 129, 3) := by decide +kernel
theorem dX14_cheapest_5 : decode cX14_cheapest 5 = .ok (.aload_n 0, 1) := by decide +kernel
theorem dX14_cheapest_6 : decode cX14_cheapest 6 = .ok (.iconst 0, 1) := by decide +kernel
theorem dX14_cheapest_7 : decode cX14_cheapest 7 = .ok (.iload_n 1, 1) := by decide +kernel
theorem dX14_cheapest_8 : decode cX14_cheapest 8 = .ok (.invokevirtual 310, 3) := by decide +kernel
theorem dX14_cheapest_11 : decode cX14_cheapest 11 = .ok (.ifCond .le 14, 3) := by decide +kernel
theorem dX14_cheapest_14 : decode cX14_cheapest 14 = .ok (.aload_n 0, 1) := by decide +kernel
theorem dX14_cheapest_15 : decode cX14_cheapest 15 = .ok (.aload_n 0, 1) := by decide +kernel
theorem dX14_cheapest_16 : decode cX14_cheapest 16 = .ok (.iconst 0, 1) := by decide +kernel
theorem dX14_cheapest_17 : decode cX14_cheapest 17 = .ok (.iload_n 1, 1) := by decide +kernel
theorem dX14_cheapest_18 : decode cX14_cheapest 18 = .ok (.invokevirtual 310, 3) := by decide +kernel
theorem dX14_cheapest_21 : decode cX14_cheapest 21 = .ok (.invokevirtual 234, 3) := by decide +kernel
theorem dX14_cheapest_24 : decode cX14_cheapest 24 = .ok (.ireturn, 1) := by decide +kernel
theorem dX14_cheapest_25 : decode cX14_cheapest 25 = .ok (.aload_n 0, 1) := by decide +kernel
theorem dX14_cheapest_26 : decode cX14_cheapest 26 = .ok (.iload_n 1, 1) := by decide +kernel
theorem dX14_cheapest_27 : decode cX14_cheapest 27 = .ok (.invokevirtual 313, 3) := by decide +kernel
theorem dX14_cheapest_30 : decode cX14_cheapest 30 = .ok (.iconst 0, 1) := by decide +kernel
theorem dX14_cheapest_31 : decode cX14_cheapest 31 = .ok (.istore_n 2, 1) := by decide +kernel
theorem dX14_cheapest_32 : decode cX14_cheapest 32 = .ok (.aload_n 0, 1) := by decide +kernel
theorem dX14_cheapest_33 : decode cX14_cheapest 33 = .ok (.iconst 0, 1) := by decide +kernel
theorem dX14_cheapest_34 : decode cX14_cheapest 34 = .ok (.invokevirtual 326, 3) := by decide +kernel
theorem dX14_cheapest_37 : decode cX14_cheapest 37 = .ok (.istore_n 3, 1) := by decide +kernel
theorem dX14_cheapest_38 : decode cX14_cheapest 38 = .ok (.iconst 1, 1) := by decide +kernel
theorem dX14_cheapest_39 : decode cX14_cheapest 39 = .ok (.istore 4, 2) := by decide +kernel
theorem dX14_cheapest_41 : decode cX14_cheapest 41 = .ok (.iload 4, 2) := by decide +kernel
theorem dX14_cheapest_43 : decode cX14_cheapest 43 = .ok (.iconst 5, 1) := by decide +kernel
theorem dX14_cheapest_44 : decode cX14_cheapest 44 = .ok (.if_icmp .ge 32, 3) := by decide +kernel
theorem dX14_cheapest_47 : decode cX14_cheapest 47 = .ok (.aload_n 0, 1) := by decide +kernel
theorem dX14_cheapest_48 : decode cX14_cheapest 48 = .ok (.iload 4, 2) := by decide +kernel
theorem dX14_cheapest_50 : decode cX14_cheapest 50 = .ok (.invokevirtual 326, 3) := by decide +kernel
theorem dX14_cheapest_53 : decode cX14_cheapest 53 = .ok (.istore 5, 2) := by decide +kernel
theorem dX14_cheapest_55 : decode cX14_cheapest 55 = .ok (.iload 5, 2) := by decide +kernel
theorem dX14_cheapest_57 : decode cX14_cheapest 57 = .ok (.iload_n 3, 1) := by decide +kernel
theorem dX14_cheapest_58 : decode cX14_cheapest 58 = .ok (.if_icmp .lt 6, 3) := by decide +kernel
theorem dX14_cheapest_61 : decode cX14_cheapest 61 = .ok (.goto 9, 3) := by decide +kernel
theorem dX14_cheapest_64 : decode cX14_cheapest 64 = .ok (.iload 5, 2) := by decide +kernel
theorem dX14_cheapest_66 : decode cX14_cheapest 66 = .ok (.istore_n 3, 1) := by decide +kernel
theorem dX14_cheapest_67 : decode cX14_cheapest 67 = .ok (.iload 4, 2) := by decide +kernel
theorem dX14_cheapest_69 : decode cX14_cheapest 69 = .ok (.istore_n 2, 1) := by decide +kernel
theorem dX14_cheapest_70 : decode cX14_cheapest 70 = .ok (.iinc 4 1, 3) := by decide +kernel
theorem dX14_cheapest_73 : decode cX14_cheapest 73 = .ok (.goto (-32), 3) := by decide +kernel
theorem dX14_cheapest_76 : decode cX14_cheapest 76 = .ok (.aload_n 0, 1) := by decide +kernel
theorem dX14_cheapest_77 : decode cX14_cheapest 77 = .ok (.iload_n 2, 1) := by decide +kernel
theorem dX14_cheapest_78 : decode cX14_cheapest 78 = .ok (.invokevirtual 246, 3) := by decide +kernel
theorem dX14_cheapest_81 : decode cX14_cheapest 81 = .ok (.ireturn, 1) := by decide +kernel
theorem dX14_spared_0 : decode cX14_spared 0 = .ok (.aload_n 0, 1) := by decide +kernel
theorem dX14_spared_1 : decode cX14_spared 1 = .ok (.invokevirtual 259, 3) := by decide +kernel
theorem dX14_spared_4 : decode cX14_spared 4 = .ok (.istore_n 1, 1) := by decide +kernel
theorem dX14_spared_5 : decode cX14_spared 5 = .ok (.iconst 0, 1) := by decide +kernel
theorem dX14_spared_6 : decode cX14_spared 6 = .ok (.istore_n 2, 1) := by decide +kernel
theorem dX14_spared_7 : decode cX14_spared 7 = .ok (.iconst 0, 1) := by decide +kernel
theorem dX14_spared_8 : decode cX14_spared 8 = .ok (.istore_n 3, 1) := by decide +kernel
theorem dX14_spared_9 : decode cX14_spared 9 = .ok (.iload_n 3, 1) := by decide +kernel
theorem dX14_spared_10 : decode cX14_spared 10 = .ok (.aload_n 0, 1) := by decide +kernel
theorem dX14_spared_11 : decode cX14_spared 11 = .ok (.getfield 16, 3) := by decide +kernel
theorem dX14_spared_14 : decode cX14_spared 14 = .ok (.getfield 186, 3) := by decide +kernel
theorem dX14_spared_17 : decode cX14_spared 17 = .ok (.if_icmp .ge 31, 3) := by decide +kernel
theorem dX14_spared_20 : decode cX14_spared 20 = .ok (.iload_n 2, 1) := by decide +kernel
theorem dX14_spared_21 : decode cX14_spared 21 = .ok (.aload_n 0, 1) := by decide +kernel
theorem dX14_spared_22 : decode cX14_spared 22 = .ok (.getfield 74, 3) := by decide +kernel
theorem dX14_spared_25 : decode cX14_spared 25 = .ok (.iload_n 3, 1) := by decide +kernel
theorem dX14_spared_26 : decode cX14_spared 26 = .ok (.baload, 1) := by decide +kernel
theorem dX14_spared_27 : decode cX14_spared 27 = .ok (.ifCond .eq 12, 3) := by decide +kernel
theorem dX14_spared_30 : decode cX14_spared 30 = .ok (.aload_n 0, 1) := by decide +kernel
theorem dX14_spared_31 : decode cX14_spared 31 = .ok (.getfield 126, 3) := by decide +kernel
theorem dX14_spared_34 : decode cX14_spared 34 = .ok (.iload_n 3, 1) := by decide +kernel
theorem dX14_spared_35 : decode cX14_spared 35 = .ok (.iaload, 1) := by decide +kernel
theorem dX14_spared_36 : decode cX14_spared 36 = .ok (.goto 4, 3) := by decide +kernel
theorem dX14_spared_39 : decode cX14_spared 39 = .ok (.iconst 0, 1) := by decide +kernel
theorem dX14_spared_40 : decode cX14_spared 40 = .ok (.iadd, 1) := by decide +kernel
theorem dX14_spared_41 : decode cX14_spared 41 = .ok (.istore_n 2, 1) := by decide +kernel
theorem dX14_spared_42 : decode cX14_spared 42 = .ok (.iinc 3 1, 3) := by decide +kernel
theorem dX14_spared_45 : decode cX14_spared 45 = .ok (.goto (-36), 3) := by decide +kernel
theorem dX14_spared_48 : decode cX14_spared 48 = .ok (.iload_n 2, 1) := by decide +kernel
theorem dX14_spared_49 : decode cX14_spared 49 = .ok (.ireturn, 1) := by decide +kernel
theorem dX14_gain_0 : decode cX14_gain 0 = .ok (.aload_n 0, 1) := by decide +kernel
theorem dX14_gain_1 : decode cX14_gain 1 = .ok (.iconst 0, 1) := by decide +kernel
theorem dX14_gain_2 : decode cX14_gain 2 = .ok (.putfield 129, 3) := by decide +kernel
theorem dX14_gain_5 : decode cX14_gain 5 = .ok (.aload_n 0, 1) := by decide +kernel
theorem dX14_gain_6 : decode cX14_gain 6 = .ok (.iconst 0, 1) := by decide +kernel
theorem dX14_gain_7 : decode cX14_gain 7 = .ok (.iload_n 1, 1) := by decide +kernel
theorem dX14_gain_8 : decode cX14_gain 8 = .ok (.invokevirtual 310, 3) := by decide +kernel
theorem dX14_gain_11 : decode cX14_gain 11 = .ok (.ifCond .le 14, 3) := by decide +kernel
theorem dX14_gain_14 : decode cX14_gain 14 = .ok (.aload_n 0, 1) := by decide +kernel
theorem dX14_gain_15 : decode cX14_gain 15 = .ok (.aload_n 0, 1) := by decide +kernel
theorem dX14_gain_16 : decode cX14_gain 16 = .ok (.iconst 0, 1) := by decide +kernel
theorem dX14_gain_17 : decode cX14_gain 17 = .ok (.iload_n 1, 1) := by decide +kernel
theorem dX14_gain_18 : decode cX14_gain 18 = .ok (.invokevirtual 310, 3) := by decide +kernel
theorem dX14_gain_21 : decode cX14_gain 21 = .ok (.invokevirtual 234, 3) := by decide +kernel
theorem dX14_gain_24 : decode cX14_gain 24 = .ok (.ireturn, 1) := by decide +kernel
theorem dX14_gain_25 : decode cX14_gain 25 = .ok (.aload_n 0, 1) := by decide +kernel
theorem dX14_gain_26 : decode cX14_gain 26 = .ok (.iload_n 1, 1) := by decide +kernel
theorem dX14_gain_27 : decode cX14_gain 27 = .ok (.invokevirtual 313, 3) := by decide +kernel
theorem dX14_gain_30 : decode cX14_gain 30 = .ok (.iconst 0, 1) := by decide +kernel
theorem dX14_gain_31 : decode cX14_gain 31 = .ok (.istore_n 2, 1) := by decide +kernel
theorem dX14_gain_32 : decode cX14_gain 32 = .ok (.iload_n 2, 1) := by decide +kernel
theorem dX14_gain_33 : decode cX14_gain 33 = .ok (.bipush 100, 2) := by decide +kernel
theorem dX14_gain_35 : decode cX14_gain 35 = .ok (.if_icmp .gt 16, 3) := by decide +kernel
theorem dX14_gain_38 : decode cX14_gain 38 = .ok (.aload_n 0, 1) := by decide +kernel
theorem dX14_gain_39 : decode cX14_gain 39 = .ok (.getfield 126, 3) := by decide +kernel
theorem dX14_gain_42 : decode cX14_gain 42 = .ok (.iload_n 2, 1) := by decide +kernel
theorem dX14_gain_43 : decode cX14_gain 43 = .ok (.iconst 0, 1) := by decide +kernel
theorem dX14_gain_44 : decode cX14_gain 44 = .ok (.iastore, 1) := by decide +kernel
theorem dX14_gain_45 : decode cX14_gain 45 = .ok (.iinc 2 1, 3) := by decide +kernel
theorem dX14_gain_48 : decode cX14_gain 48 = .ok (.goto (-16), 3) := by decide +kernel
theorem dX14_gain_51 : decode cX14_gain 51 = .ok (.iconst 0, 1) := by decide +kernel
theorem dX14_gain_52 : decode cX14_gain 52 = .ok (.istore_n 2, 1) := by decide +kernel
theorem dX14_gain_53 : decode cX14_gain 53 = .ok (.iload_n 2, 1) := by decide +kernel
theorem dX14_gain_54 : decode cX14_gain 54 = .ok (.aload_n 0, 1) := by decide +kernel
theorem dX14_gain_55 : decode cX14_gain 55 = .ok (.getfield 271, 3) := by decide +kernel
theorem dX14_gain_58 : decode cX14_gain 58 = .ok (.if_icmp .ge 24, 3) := by decide +kernel
theorem dX14_gain_61 : decode cX14_gain 61 = .ok (.aload_n 0, 1) := by decide +kernel
theorem dX14_gain_62 : decode cX14_gain 62 = .ok (.getfield 126, 3) := by decide +kernel
theorem dX14_gain_65 : decode cX14_gain 65 = .ok (.aload_n 0, 1) := by decide +kernel
theorem dX14_gain_66 : decode cX14_gain 66 = .ok (.getfield 77, 3) := by decide +kernel
theorem dX14_gain_69 : decode cX14_gain 69 = .ok (.iload_n 2, 1) := by decide +kernel
theorem dX14_gain_70 : decode cX14_gain 70 = .ok (.iaload, 1) := by decide +kernel
theorem dX14_gain_71 : decode cX14_gain 71 = .ok (.dup2, 1) := by decide +kernel
theorem dX14_gain_72 : decode cX14_gain 72 = .ok (.iaload, 1) := by decide +kernel
theorem dX14_gain_73 : decode cX14_gain 73 = .ok (.iconst 1, 1) := by decide +kernel
theorem dX14_gain_74 : decode cX14_gain 74 = .ok (.iadd, 1) := by decide +kernel
theorem dX14_gain_75 : decode cX14_gain 75 = .ok (.iastore, 1) := by decide +kernel
theorem dX14_gain_76 : decode cX14_gain 76 = .ok (.iinc 2 1, 3) := by decide +kernel
theorem dX14_gain_79 : decode cX14_gain 79 = .ok (.goto (-26), 3) := by decide +kernel
theorem dX14_gain_82 : decode cX14_gain 82 = .ok (.aload_n 0, 1) := by decide +kernel
theorem dX14_gain_83 : decode cX14_gain 83 = .ok (.invokevirtual 353, 3) := by decide +kernel
theorem dX14_gain_86 : decode cX14_gain 86 = .ok (.istore_n 2, 1) := by decide +kernel
theorem dX14_gain_87 : decode cX14_gain 87 = .ok (.iconst 0, 1) := by decide +kernel
theorem dX14_gain_88 : decode cX14_gain 88 = .ok (.istore_n 3, 1) := by decide +kernel
theorem dX14_gain_89 : decode cX14_gain 89 = .ok (.iconst (-1), 1) := by decide +kernel
theorem dX14_gain_90 : decode cX14_gain 90 = .ok (.istore 4, 2) := by decide +kernel
theorem dX14_gain_92 : decode cX14_gain 92 = .ok (.iconst 0, 1) := by decide +kernel
theorem dX14_gain_93 : decode cX14_gain 93 = .ok (.istore 5, 2) := by decide +kernel
theorem dX14_gain_95 : decode cX14_gain 95 = .ok (.iload 5, 2) := by decide +kernel
theorem dX14_gain_97 : decode cX14_gain 97 = .ok (.sipush 225, 3) := by decide +kernel
theorem dX14_gain_100 : decode cX14_gain 100 = .ok (.if_icmp .ge 62, 3) := by decide +kernel
theorem dX14_gain_103 : decode cX14_gain 103 = .ok (.aload_n 0, 1) := by decide +kernel
theorem dX14_gain_104 : decode cX14_gain 104 = .ok (.getfield 70, 3) := by decide +kernel
theorem dX14_gain_107 : decode cX14_gain 107 = .ok (.iload 5, 2) := by decide +kernel
theorem dX14_gain_109 : decode cX14_gain 109 = .ok (.baload, 1) := by decide +kernel
theorem dX14_gain_110 : decode cX14_gain 110 = .ok (.ifCond .eq 6, 3) := by decide +kernel
theorem dX14_gain_113 : decode cX14_gain 113 = .ok (.goto 43, 3) := by decide +kernel
theorem dX14_gain_116 : decode cX14_gain 116 = .ok (.aload_n 0, 1) := by decide +kernel
theorem dX14_gain_117 : decode cX14_gain 117 = .ok (.getfield 70, 3) := by decide +kernel
theorem dX14_gain_120 : decode cX14_gain 120 = .ok (.iload 5, 2) := by decide +kernel
theorem dX14_gain_122 : decode cX14_gain 122 = .ok (.iconst 1, 1) := by decide +kernel
theorem dX14_gain_123 : decode cX14_gain 123 = .ok (.bastore, 1) := by decide +kernel
theorem dX14_gain_124 : decode cX14_gain 124 = .ok (.aload_n 0, 1) := by decide +kernel
theorem dX14_gain_125 : decode cX14_gain 125 = .ok (.invokevirtual 353, 3) := by decide +kernel
theorem dX14_gain_128 : decode cX14_gain 128 = .ok (.iload_n 2, 1) := by decide +kernel
theorem dX14_gain_129 : decode cX14_gain 129 = .ok (.isub, 1) := by decide +kernel
theorem dX14_gain_130 : decode cX14_gain 130 = .ok (.istore 6, 2) := by decide +kernel
theorem dX14_gain_132 : decode cX14_gain 132 = .ok (.aload_n 0, 1) := by decide +kernel
theorem dX14_gain_133 : decode cX14_gain 133 = .ok (.getfield 70, 3) := by decide +kernel
theorem dX14_gain_136 : decode cX14_gain 136 = .ok (.iload 5, 2) := by decide +kernel
theorem dX14_gain_138 : decode cX14_gain 138 = .ok (.iconst 0, 1) := by decide +kernel
theorem dX14_gain_139 : decode cX14_gain 139 = .ok (.bastore, 1) := by decide +kernel
theorem dX14_gain_140 : decode cX14_gain 140 = .ok (.iload 6, 2) := by decide +kernel
theorem dX14_gain_142 : decode cX14_gain 142 = .ok (.iload_n 3, 1) := by decide +kernel
theorem dX14_gain_143 : decode cX14_gain 143 = .ok (.if_icmp .gt 6, 3) := by decide +kernel
theorem dX14_gain_146 : decode cX14_gain 146 = .ok (.goto 10, 3) := by decide +kernel
theorem dX14_gain_149 : decode cX14_gain 149 = .ok (.iload 6, 2) := by decide +kernel
theorem dX14_gain_151 : decode cX14_gain 151 = .ok (.istore_n 3, 1) := by decide +kernel
theorem dX14_gain_152 : decode cX14_gain 152 = .ok (.iload 5, 2) := by decide +kernel
theorem dX14_gain_154 : decode cX14_gain 154 = .ok (.istore 4, 2) := by decide +kernel
theorem dX14_gain_156 : decode cX14_gain 156 = .ok (.iinc 5 1, 3) := by decide +kernel
theorem dX14_gain_159 : decode cX14_gain 159 = .ok (.goto (-64), 3) := by decide +kernel
theorem dX14_gain_162 : decode cX14_gain 162 = .ok (.iload_n 3, 1) := by decide +kernel
theorem dX14_gain_163 : decode cX14_gain 163 = .ok (.ifCond .le 21, 3) := by decide +kernel
theorem dX14_gain_166 : decode cX14_gain 166 = .ok (.aload_n 0, 1) := by decide +kernel
theorem dX14_gain_167 : decode cX14_gain 167 = .ok (.bipush 100, 2) := by decide +kernel
theorem dX14_gain_169 : decode cX14_gain 169 = .ok (.iload 4, 2) := by decide +kernel
theorem dX14_gain_171 : decode cX14_gain 171 = .ok (.bipush 15, 2) := by decide +kernel
theorem dX14_gain_173 : decode cX14_gain 173 = .ok (.idiv, 1) := by decide +kernel
theorem dX14_gain_174 : decode cX14_gain 174 = .ok (.imul, 1) := by decide +kernel
theorem dX14_gain_175 : decode cX14_gain 175 = .ok (.iload 4, 2) := by decide +kernel
theorem dX14_gain_177 : decode cX14_gain 177 = .ok (.bipush 15, 2) := by decide +kernel
theorem dX14_gain_179 : decode cX14_gain 179 = .ok (.irem, 1) := by decide +kernel
theorem dX14_gain_180 : decode cX14_gain 180 = .ok (.iadd, 1) := by decide +kernel
theorem dX14_gain_181 : decode cX14_gain 181 = .ok (.putfield 123, 3) := by decide +kernel
theorem dX14_gain_184 : decode cX14_gain 184 = .ok (.aload_n 0, 1) := by decide +kernel
theorem dX14_gain_185 : decode cX14_gain 185 = .ok (.iconst 4, 1) := by decide +kernel
theorem dX14_gain_186 : decode cX14_gain 186 = .ok (.iload_n 3, 1) := by decide +kernel
theorem dX14_gain_187 : decode cX14_gain 187 = .ok (.imul, 1) := by decide +kernel
theorem dX14_gain_188 : decode cX14_gain 188 = .ok (.invokevirtual 246, 3) := by decide +kernel
theorem dX14_gain_191 : decode cX14_gain 191 = .ok (.ireturn, 1) := by decide +kernel
theorem dX14_better_0 : decode cX14_better 0 = .ok (.aload_n 0, 1) := by decide +kernel
theorem dX14_better_1 : decode cX14_better 1 = .ok (.iconst 0, 1) := by decide +kernel
theorem dX14_better_2 : decode cX14_better 2 = .ok (.putfield 129, 3) := by decide +kernel
theorem dX14_better_5 : decode cX14_better 5 = .ok (.aload_n 0, 1) := by decide +kernel
theorem dX14_better_6 : decode cX14_better 6 = .ok (.getfield 123, 3) := by decide +kernel
theorem dX14_better_9 : decode cX14_better 9 = .ok (.ireturn, 1) := by decide +kernel
theorem dX14_count_0 : decode cX14_count 0 = .ok (.aload_n 0, 1) := by decide +kernel
theorem dX14_count_1 : decode cX14_count 1 = .ok (.iconst 0, 1) := by decide +kernel
theorem dX14_count_2 : decode cX14_count 2 = .ok (.putfield 129, 3) := by decide +kernel
theorem dX14_count_5 : decode cX14_count 5 = .ok (.iload_n 1, 1) := by decide +kernel
theorem dX14_count_6 : decode cX14_count 6 = .ok (.tableswitch 55 0 2 #[26, 45, 50], 26) := by decide +kernel
theorem dX14_count_32 : decode cX14_count 32 = .ok (.aload_n 0, 1) := by decide +kernel
theorem dX14_count_33 : decode cX14_count 33 = .ok (.getfield 243, 3) := by decide +kernel
theorem dX14_count_36 : decode cX14_count 36 = .ok (.ifCond .eq 13, 3) := by decide +kernel
theorem dX14_count_39 : decode cX14_count 39 = .ok (.aload_n 0, 1) := by decide +kernel
theorem dX14_count_40 : decode cX14_count 40 = .ok (.getfield 16, 3) := by decide +kernel
theorem dX14_count_43 : decode cX14_count 43 = .ok (.getfield 186, 3) := by decide +kernel
theorem dX14_count_46 : decode cX14_count 46 = .ok (.goto 4, 3) := by decide +kernel
theorem dX14_count_49 : decode cX14_count 49 = .ok (.iconst 0, 1) := by decide +kernel
theorem dX14_count_50 : decode cX14_count 50 = .ok (.ireturn, 1) := by decide +kernel
theorem dX14_count_51 : decode cX14_count 51 = .ok (.aload_n 0, 1) := by decide +kernel
theorem dX14_count_52 : decode cX14_count 52 = .ok (.getfield 256, 3) := by decide +kernel
theorem dX14_count_55 : decode cX14_count 55 = .ok (.ireturn, 1) := by decide +kernel
theorem dX14_count_56 : decode cX14_count 56 = .ok (.aload_n 0, 1) := by decide +kernel
theorem dX14_count_57 : decode cX14_count 57 = .ok (.getfield 231, 3) := by decide +kernel
theorem dX14_count_60 : decode cX14_count 60 = .ok (.ireturn, 1) := by decide +kernel
theorem dX14_count_61 : decode cX14_count 61 = .ok (.iconst (-1), 1) := by decide +kernel
theorem dX14_count_62 : decode cX14_count 62 = .ok (.ireturn, 1) := by decide +kernel
theorem dX14_trouble_0 : decode cX14_trouble 0 = .ok (.aload_n 0, 1) := by decide +kernel
theorem dX14_trouble_1 : decode cX14_trouble 1 = .ok (.iconst 0, 1) := by decide +kernel
theorem dX14_trouble_2 : decode cX14_trouble 2 = .ok (.putfield 129, 3) := by decide +kernel
theorem dX14_trouble_5 : decode cX14_trouble 5 = .ok (.aload_n 0, 1) := by decide +kernel
theorem dX14_trouble_6 : decode cX14_trouble 6 = .ok (.getfield 132, 3) := by decide +kernel
theorem dX14_trouble_9 : decode cX14_trouble 9 = .ok (.ireturn, 1) := by decide +kernel
theorem dJx29ce0_ordinal_8abf5_0 : decode cJx29ce0_ordinal_8abf5 0 = .ok (.aload_n 0, 1) := by decide +kernel
theorem dJx29ce0_ordinal_8abf5_1 : decode cJx29ce0_ordinal_8abf5 1 = .ok (.getfield 7, 3) := by decide +kernel
theorem dJx29ce0_ordinal_8abf5_4 : decode cJx29ce0_ordinal_8abf5 4 = .ok (.ireturn, 1) := by decide +kernel
theorem dJ9_max_7cf53_0 : decode cJ9_max_7cf53 0 = .ok (.iload_n 0, 1) := by decide +kernel
theorem dJ9_max_7cf53_1 : decode cJ9_max_7cf53 1 = .ok (.iload_n 1, 1) := by decide +kernel
theorem dJ9_max_7cf53_2 : decode cJ9_max_7cf53 2 = .ok (.if_icmp .lt 7, 3) := by decide +kernel
theorem dJ9_max_7cf53_5 : decode cJ9_max_7cf53 5 = .ok (.iload_n 0, 1) := by decide +kernel
theorem dJ9_max_7cf53_6 : decode cJ9_max_7cf53 6 = .ok (.goto 4, 3) := by decide +kernel
theorem dJ9_max_7cf53_9 : decode cJ9_max_7cf53 9 = .ok (.iload_n 1, 1) := by decide +kernel
theorem dJ9_max_7cf53_10 : decode cJ9_max_7cf53 10 = .ok (.ireturn, 1) := by decide +kernel
theorem dJ9_min_7cf53_0 : decode cJ9_min_7cf53 0 = .ok (.iload_n 0, 1) := by decide +kernel
theorem dJ9_min_7cf53_1 : decode cJ9_min_7cf53 1 = .ok (.iload_n 1, 1) := by decide +kernel
theorem dJ9_min_7cf53_2 : decode cJ9_min_7cf53 2 = .ok (.if_icmp .gt 7, 3) := by decide +kernel
theorem dJ9_min_7cf53_5 : decode cJ9_min_7cf53 5 = .ok (.iload_n 0, 1) := by decide +kernel
theorem dJ9_min_7cf53_6 : decode cJ9_min_7cf53 6 = .ok (.goto 4, 3) := by decide +kernel
theorem dJ9_min_7cf53_9 : decode cJ9_min_7cf53 9 = .ok (.iload_n 1, 1) := by decide +kernel
theorem dJ9_min_7cf53_10 : decode cJ9_min_7cf53 10 = .ok (.ireturn, 1) := by decide +kernel
theorem dJ0_length_8abf5_0 : decode cJ0_length_8abf5 0 = .ok (.aload_n 0, 1) := by decide +kernel
theorem dJ0_length_8abf5_1 : decode cJ0_length_8abf5 1 = .ok (.getfield 9, 3) := by decide +kernel
theorem dJ0_length_8abf5_4 : decode cJ0_length_8abf5 4 = .ok (.arraylength, 1) := by decide +kernel
theorem dJ0_length_8abf5_5 : decode cJ0_length_8abf5 5 = .ok (.aload_n 0, 1) := by decide +kernel
theorem dJ0_length_8abf5_6 : decode cJ0_length_8abf5 6 = .ok (.invokevirtual 335, 3) := by decide +kernel
theorem dJ0_length_8abf5_9 : decode cJ0_length_8abf5 9 = .ok (.ishr, 1) := by decide +kernel
theorem dJ0_length_8abf5_10 : decode cJ0_length_8abf5 10 = .ok (.ireturn, 1) := by decide +kernel
theorem dJ0_charAt_5068e_0 : decode cJ0_charAt_5068e 0 = .ok (.aload_n 0, 1) := by decide +kernel
theorem dJ0_charAt_5068e_1 : decode cJ0_charAt_5068e 1 = .ok (.invokevirtual 492, 3) := by decide +kernel
theorem dJ0_charAt_5068e_4 : decode cJ0_charAt_5068e 4 = .ok (.ifCond .eq 12, 3) := by decide +kernel
theorem dJ0_charAt_5068e_7 : decode cJ0_charAt_5068e 7 = .ok (.aload_n 0, 1) := by decide +kernel
theorem dJ0_charAt_5068e_8 : decode cJ0_charAt_5068e 8 = .ok (.getfield 9, 3) := by decide +kernel
theorem dJ0_charAt_5068e_11 : decode cJ0_charAt_5068e 11 = .ok (.iload_n 1, 1) := by decide +kernel
theorem dJ0_charAt_5068e_12 : decode cJ0_charAt_5068e 12 = .ok (.invokestatic 495, 3) := by decide +kernel
theorem dJ0_charAt_5068e_15 : decode cJ0_charAt_5068e 15 = .ok (.ireturn, 1) := by decide +kernel
theorem dJ0_charAt_5068e_16 : decode cJ0_charAt_5068e 16 = .ok (.aload_n 0, 1) := by decide +kernel
theorem dJ0_charAt_5068e_17 : decode cJ0_charAt_5068e 17 = .ok (.getfield 9, 3) := by decide +kernel
theorem dJ0_charAt_5068e_20 : decode cJ0_charAt_5068e 20 = .ok (.iload_n 1, 1) := by decide +kernel
theorem dJ0_charAt_5068e_21 : decode cJ0_charAt_5068e 21 = .ok (.invokestatic 498, 3) := by decide +kernel
theorem dJ0_charAt_5068e_24 : decode cJ0_charAt_5068e 24 = .ok (.ireturn, 1) := by decide +kernel
theorem dJ0_coder_7d493_0 : decode cJ0_coder_7d493 0 = .ok (.getstatic 38, 3) := by decide +kernel
theorem dJ0_coder_7d493_3 : decode cJ0_coder_7d493 3 = .ok (.ifCond .eq 10, 3) := by decide +kernel
theorem dJ0_coder_7d493_6 : decode cJ0_coder_7d493 6 = .ok (.aload_n 0, 1) := by decide +kernel
theorem dJ0_coder_7d493_7 : decode cJ0_coder_7d493 7 = .ok (.getfield 15, 3) := by decide +kernel
theorem dJ0_coder_7d493_10 : decode cJ0_coder_7d493 10 = .ok (.goto 4, 3) := by decide +kernel
theorem dJ0_coder_7d493_13 : decode cJ0_coder_7d493 13 = .ok (.iconst 1, 1) := by decide +kernel
theorem dJ0_coder_7d493_14 : decode cJ0_coder_7d493 14 = .ok (.ireturn, 1) := by decide +kernel
theorem dJ0_isLatin1_aae02_0 : decode cJ0_isLatin1_aae02 0 = .ok (.getstatic 38, 3) := by decide +kernel
theorem dJ0_isLatin1_aae02_3 : decode cJ0_isLatin1_aae02 3 = .ok (.ifCond .eq 14, 3) := by decide +kernel
theorem dJ0_isLatin1_aae02_6 : decode cJ0_isLatin1_aae02 6 = .ok (.aload_n 0, 1) := by decide +kernel
theorem dJ0_isLatin1_aae02_7 : decode cJ0_isLatin1_aae02 7 = .ok (.getfield 15, 3) := by decide +kernel
theorem dJ0_isLatin1_aae02_10 : decode cJ0_isLatin1_aae02 10 = .ok (.ifCond .ne 7, 3) := by decide +kernel
theorem dJ0_isLatin1_aae02_13 : decode cJ0_isLatin1_aae02 13 = .ok (.iconst 1, 1) := by decide +kernel
theorem dJ0_isLatin1_aae02_14 : decode cJ0_isLatin1_aae02 14 = .ok (.goto 4, 3) := by decide +kernel
theorem dJ0_isLatin1_aae02_17 : decode cJ0_isLatin1_aae02 17 = .ok (.iconst 0, 1) := by decide +kernel
theorem dJ0_isLatin1_aae02_18 : decode cJ0_isLatin1_aae02 18 = .ok (.ireturn, 1) := by decide +kernel
theorem dJ0_checkIndex_df160_0 : decode cJ0_checkIndex_df160 0 = .ok (.iload_n 0, 1) := by decide +kernel
theorem dJ0_checkIndex_df160_1 : decode cJ0_checkIndex_df160 1 = .ok (.iload_n 1, 1) := by decide +kernel
theorem dJ0_checkIndex_df160_2 : decode cJ0_checkIndex_df160 2 = .ok (.getstatic 1053, 3) := by decide +kernel
theorem dJ0_checkIndex_df160_5 : decode cJ0_checkIndex_df160 5 = .ok (.invokestatic 1059, 3) := by decide +kernel
theorem dJ0_checkIndex_df160_8 : decode cJ0_checkIndex_df160 8 = .ok (.pop, 1) := by decide +kernel
theorem dJ0_checkIndex_df160_9 : decode cJ0_checkIndex_df160 9 = .ok (.return_, 1) := by decide +kernel
theorem dJ1_charAt_3b067_0 : decode cJ1_charAt_3b067 0 = .ok (.iload_n 1, 1) := by decide +kernel
theorem dJ1_charAt_3b067_1 : decode cJ1_charAt_3b067 1 = .ok (.aload_n 0, 1) := by decide +kernel
theorem dJ1_charAt_3b067_2 : decode cJ1_charAt_3b067 2 = .ok (.arraylength, 1) := by decide +kernel
theorem dJ1_charAt_3b067_3 : decode cJ1_charAt_3b067 3 = .ok (.invokestatic 9, 3) := by decide +kernel
theorem dJ1_charAt_3b067_6 : decode cJ1_charAt_3b067 6 = .ok (.aload_n 0, 1) := by decide +kernel
theorem dJ1_charAt_3b067_7 : decode cJ1_charAt_3b067 7 = .ok (.iload_n 1, 1) := by decide +kernel
theorem dJ1_charAt_3b067_8 : decode cJ1_charAt_3b067 8 = .ok (.baload, 1) := by decide +kernel
theorem dJ1_charAt_3b067_9 : decode cJ1_charAt_3b067 9 = .ok (.sipush 255, 3) := by decide +kernel
theorem dJ1_charAt_3b067_12 : decode cJ1_charAt_3b067 12 = .ok (.iand, 1) := by decide +kernel
theorem dJ1_charAt_3b067_13 : decode cJ1_charAt_3b067 13 = .ok (.i2c, 1) := by decide +kernel
theorem dJ1_charAt_3b067_14 : decode cJ1_charAt_3b067 14 = .ok (.ireturn, 1) := by decide +kernel
theorem dJ2_getChar_3b067_0 : decode cJ2_getChar_3b067 0 = .ok (.getstatic 44, 3) := by decide +kernel
theorem dJ2_getChar_3b067_3 : decode cJ2_getChar_3b067 3 = .ok (.ifCond .ne 25, 3) := by decide +kernel
theorem dJ2_getChar_3b067_6 : decode cJ2_getChar_3b067 6 = .ok (.iload_n 1, 1) := by decide +kernel
theorem dJ2_getChar_3b067_7 : decode cJ2_getChar_3b067 7 = .ok (.ifCond .lt 11, 3) := by decide +kernel
theorem dJ2_getChar_3b067_10 : decode cJ2_getChar_3b067 10 = .ok (.iload_n 1, 1) := by decide +kernel
theorem dJ2_getChar_3b067_11 : decode cJ2_getChar_3b067 11 = .ok (.aload_n 0, 1) := by decide +kernel
theorem dJ2_getChar_3b067_12 : decode cJ2_getChar_3b067 12 = .ok (.invokestatic 48, 3) := by decide +kernel
theorem dJ2_getChar_3b067_15 : decode cJ2_getChar_3b067 15 = .ok (.if_icmp .lt 13, 3) := by decide +kernel
theorem dJ2_getChar_3b067_18 : decode cJ2_getChar_3b067 18 = .ok (.new 52, 3) := by decide +kernel
theorem dJ2_getChar_3b067_21 : decode cJ2_getChar_3b067 21 = .ok (.dup, 1) := by decide +kernel
theorem dJ2_getChar_3b067_22 : decode cJ2_getChar_3b067 22 = .ok (.ldc 54, 2) := by decide +kernel
theorem dJ2_getChar_3b067_24 : decode cJ2_getChar_3b067 24 = .ok (.invokespecial 56, 3) := by decide +kernel
theorem dJ2_getChar_3b067_27 : decode cJ2_getChar_3b067 27 = .ok (.athrow, 1) := by decide +kernel
theorem dJ2_getChar_3b067_28 : decode cJ2_getChar_3b067 28 = .ok (.iload_n 1, 1) := by decide +kernel
theorem dJ2_getChar_3b067_29 : decode cJ2_getChar_3b067 29 = .ok (.iconst 1, 1) := by decide +kernel
theorem dJ2_getChar_3b067_30 : decode cJ2_getChar_3b067 30 = .ok (.ishl, 1) := by decide +kernel
theorem dJ2_getChar_3b067_31 : decode cJ2_getChar_3b067 31 = .ok (.istore_n 1, 1) := by decide +kernel
theorem dJ2_getChar_3b067_32 : decode cJ2_getChar_3b067 32 = .ok (.aload_n 0, 1) := by decide +kernel
theorem dJ2_getChar_3b067_33 : decode cJ2_getChar_3b067 33 = .ok (.iload_n 1, 1) := by decide +kernel
theorem dJ2_getChar_3b067_34 : decode cJ2_getChar_3b067 34 = .ok (.iinc 1 1, 3) := by decide +kernel
theorem dJ2_getChar_3b067_37 : decode cJ2_getChar_3b067 37 = .ok (.baload, 1) := by decide +kernel
theorem dJ2_getChar_3b067_38 : decode cJ2_getChar_3b067 38 = .ok (.sipush 255, 3) := by decide +kernel
theorem dJ2_getChar_3b067_41 : decode cJ2_getChar_3b067 41 = .ok (.iand, 1) := by decide +kernel
theorem dJ2_getChar_3b067_42 : decode cJ2_getChar_3b067 42 = .ok (.getstatic 59, 3) := by decide +kernel
theorem dJ2_getChar_3b067_45 : decode cJ2_getChar_3b067 45 = .ok (.ishl, 1) := by decide +kernel
theorem dJ2_getChar_3b067_46 : decode cJ2_getChar_3b067 46 = .ok (.aload_n 0, 1) := by decide +kernel
theorem dJ2_getChar_3b067_47 : decode cJ2_getChar_3b067 47 = .ok (.iload_n 1, 1) := by decide +kernel
theorem dJ2_getChar_3b067_48 : decode cJ2_getChar_3b067 48 = .ok (.baload, 1) := by decide +kernel
theorem dJ2_getChar_3b067_49 : decode cJ2_getChar_3b067 49 = .ok (.sipush 255, 3) := by decide +kernel
theorem dJ2_getChar_3b067_52 : decode cJ2_getChar_3b067 52 = .ok (.iand, 1) := by decide +kernel
theorem dJ2_getChar_3b067_53 : decode cJ2_getChar_3b067 53 = .ok (.getstatic 63, 3) := by decide +kernel
theorem dJ2_getChar_3b067_56 : decode cJ2_getChar_3b067 56 = .ok (.ishl, 1) := by decide +kernel
theorem dJ2_getChar_3b067_57 : decode cJ2_getChar_3b067 57 = .ok (.ior, 1) := by decide +kernel
theorem dJ2_getChar_3b067_58 : decode cJ2_getChar_3b067 58 = .ok (.i2c, 1) := by decide +kernel
theorem dJ2_getChar_3b067_59 : decode cJ2_getChar_3b067 59 = .ok (.ireturn, 1) := by decide +kernel
theorem dJ2_length_9d52b_0 : decode cJ2_length_9d52b 0 = .ok (.aload_n 0, 1) := by decide +kernel
theorem dJ2_length_9d52b_1 : decode cJ2_length_9d52b 1 = .ok (.arraylength, 1) := by decide +kernel
theorem dJ2_length_9d52b_2 : decode cJ2_length_9d52b 2 = .ok (.iconst 1, 1) := by decide +kernel
theorem dJ2_length_9d52b_3 : decode cJ2_length_9d52b 3 = .ok (.ishr, 1) := by decide +kernel
theorem dJ2_length_9d52b_4 : decode cJ2_length_9d52b 4 = .ok (.ireturn, 1) := by decide +kernel
theorem dJ2_charAt_3b067_0 : decode cJ2_charAt_3b067 0 = .ok (.iload_n 1, 1) := by decide +kernel
theorem dJ2_charAt_3b067_1 : decode cJ2_charAt_3b067 1 = .ok (.aload_n 0, 1) := by decide +kernel
theorem dJ2_charAt_3b067_2 : decode cJ2_charAt_3b067 2 = .ok (.invokestatic 67, 3) := by decide +kernel
theorem dJ2_charAt_3b067_5 : decode cJ2_charAt_3b067 5 = .ok (.aload_n 0, 1) := by decide +kernel
theorem dJ2_charAt_3b067_6 : decode cJ2_charAt_3b067 6 = .ok (.iload_n 1, 1) := by decide +kernel
theorem dJ2_charAt_3b067_7 : decode cJ2_charAt_3b067 7 = .ok (.invokestatic 71, 3) := by decide +kernel
theorem dJ2_charAt_3b067_10 : decode cJ2_charAt_3b067 10 = .ok (.ireturn, 1) := by decide +kernel
theorem dJ2_checkIndex_2214a_0 : decode cJ2_checkIndex_2214a 0 = .ok (.iload_n 0, 1) := by decide +kernel
theorem dJ2_checkIndex_2214a_1 : decode cJ2_checkIndex_2214a 1 = .ok (.aload_n 1, 1) := by decide +kernel
theorem dJ2_checkIndex_2214a_2 : decode cJ2_checkIndex_2214a 2 = .ok (.invokestatic 48, 3) := by decide +kernel
theorem dJ2_checkIndex_2214a_5 : decode cJ2_checkIndex_2214a 5 = .ok (.invokestatic 414, 3) := by decide +kernel
theorem dJ2_checkIndex_2214a_8 : decode cJ2_checkIndex_2214a 8 = .ok (.return_, 1) := by decide +kernel
theorem dJ7_fill_53178_0 : decode cJ7_fill_53178 0 = .ok (.iconst 0, 1) := by decide +kernel
theorem dJ7_fill_53178_1 : decode cJ7_fill_53178 1 = .ok (.istore_n 2, 1) := by decide +kernel
theorem dJ7_fill_53178_2 : decode cJ7_fill_53178 2 = .ok (.aload_n 0, 1) := by decide +kernel
theorem dJ7_fill_53178_3 : decode cJ7_fill_53178 3 = .ok (.arraylength, 1) := by decide +kernel
theorem dJ7_fill_53178_4 : decode cJ7_fill_53178 4 = .ok (.istore_n 3, 1) := by decide +kernel
theorem dJ7_fill_53178_5 : decode cJ7_fill_53178 5 = .ok (.iload_n 2, 1) := by decide +kernel
theorem dJ7_fill_53178_6 : decode cJ7_fill_53178 6 = .ok (.iload_n 3, 1) := by decide +kernel
theorem dJ7_fill_53178_7 : decode cJ7_fill_53178 7 = .ok (.if_icmp .ge 13, 3) := by decide +kernel
theorem dJ7_fill_53178_10 : decode cJ7_fill_53178 10 = .ok (.aload_n 0, 1) := by decide +kernel
theorem dJ7_fill_53178_11 : decode cJ7_fill_53178 11 = .ok (.iload_n 2, 1) := by decide +kernel
theorem dJ7_fill_53178_12 : decode cJ7_fill_53178 12 = .ok (.iload_n 1, 1) := by decide +kernel
theorem dJ7_fill_53178_13 : decode cJ7_fill_53178 13 = .ok (.iastore, 1) := by decide +kernel
theorem dJ7_fill_53178_14 : decode cJ7_fill_53178 14 = .ok (.iinc 2 1, 3) := by decide +kernel
theorem dJ7_fill_53178_17 : decode cJ7_fill_53178 17 = .ok (.goto (-12), 3) := by decide +kernel
theorem dJ7_fill_53178_20 : decode cJ7_fill_53178 20 = .ok (.return_, 1) := by decide +kernel
theorem dJ3_checkIndex_8e157_0 : decode cJ3_checkIndex_8e157 0 = .ok (.iload_n 0, 1) := by decide +kernel
theorem dJ3_checkIndex_8e157_1 : decode cJ3_checkIndex_8e157 1 = .ok (.ifCond .lt 8, 3) := by decide +kernel
theorem dJ3_checkIndex_8e157_4 : decode cJ3_checkIndex_8e157 4 = .ok (.iload_n 0, 1) := by decide +kernel
theorem dJ3_checkIndex_8e157_5 : decode cJ3_checkIndex_8e157 5 = .ok (.iload_n 1, 1) := by decide +kernel
theorem dJ3_checkIndex_8e157_6 : decode cJ3_checkIndex_8e157 6 = .ok (.if_icmp .lt 10, 3) := by decide +kernel
theorem dJ3_checkIndex_8e157_9 : decode cJ3_checkIndex_8e157 9 = .ok (.aload_n 2, 1) := by decide +kernel
theorem dJ3_checkIndex_8e157_10 : decode cJ3_checkIndex_8e157 10 = .ok (.iload_n 0, 1) := by decide +kernel
theorem dJ3_checkIndex_8e157_11 : decode cJ3_checkIndex_8e157 11 = .ok (.iload_n 1, 1) := by decide +kernel
theorem dJ3_checkIndex_8e157_12 : decode cJ3_checkIndex_8e157 12 = .ok (.invokestatic 95, 3) := by decide +kernel
theorem dJ3_checkIndex_8e157_15 : decode cJ3_checkIndex_8e157 15 = .ok (.athrow, 1) := by decide +kernel
theorem dJ3_checkIndex_8e157_16 : decode cJ3_checkIndex_8e157 16 = .ok (.iload_n 0, 1) := by decide +kernel
theorem dJ3_checkIndex_8e157_17 : decode cJ3_checkIndex_8e157 17 = .ok (.ireturn, 1) := by decide +kernel
theorem dL_out_0 : decode cL_out 0 = .ok (.aload_n 2, 1) := by decide +kernel
theorem dL_out_1 : decode cL_out 1 = .ok (.iconst 0, 1) := by decide +kernel
theorem dL_out_2 : decode cL_out 2 = .ok (.aload_n 0, 1) := by decide +kernel
theorem dL_out_3 : decode cL_out 3 = .ok (.iload_n 1, 1) := by decide +kernel
theorem dL_out_4 : decode cL_out 4 = .ok (.invokevirtual 7, 3) := by decide +kernel
theorem dL_out_7 : decode cL_out 7 = .ok (.i2l, 1) := by decide +kernel
theorem dL_out_8 : decode cL_out 8 = .ok (.lastore, 1) := by decide +kernel
theorem dL_out_9 : decode cL_out 9 = .ok (.goto 6, 3) := by decide +kernel
theorem dL_out_12 : decode cL_out 12 = .ok (.astore_n 3, 1) := by decide +kernel
theorem dL_out_13 : decode cL_out 13 = .ok (.iconst 1, 1) := by decide +kernel
theorem dL_out_14 : decode cL_out 14 = .ok (.ireturn, 1) := by decide +kernel
theorem dL_out_15 : decode cL_out 15 = .ok (.iconst 0, 1) := by decide +kernel
theorem dL_out_16 : decode cL_out 16 = .ok (.ireturn, 1) := by decide +kernel
theorem dL_pile_0 : decode cL_pile 0 = .ok (.aload_n 2, 1) := by decide +kernel
theorem dL_pile_1 : decode cL_pile 1 = .ok (.iconst 0, 1) := by decide +kernel
theorem dL_pile_2 : decode cL_pile 2 = .ok (.aload_n 0, 1) := by decide +kernel
theorem dL_pile_3 : decode cL_pile 3 = .ok (.iload_n 1, 1) := by decide +kernel
theorem dL_pile_4 : decode cL_pile 4 = .ok (.invokevirtual 15, 3) := by decide +kernel
theorem dL_pile_7 : decode cL_pile 7 = .ok (.i2l, 1) := by decide +kernel
theorem dL_pile_8 : decode cL_pile 8 = .ok (.lastore, 1) := by decide +kernel
theorem dL_pile_9 : decode cL_pile 9 = .ok (.goto 6, 3) := by decide +kernel
theorem dL_pile_12 : decode cL_pile 12 = .ok (.astore_n 3, 1) := by decide +kernel
theorem dL_pile_13 : decode cL_pile 13 = .ok (.iconst 1, 1) := by decide +kernel
theorem dL_pile_14 : decode cL_pile 14 = .ok (.ireturn, 1) := by decide +kernel
theorem dL_pile_15 : decode cL_pile 15 = .ok (.iconst 0, 1) := by decide +kernel
theorem dL_pile_16 : decode cL_pile 16 = .ok (.ireturn, 1) := by decide +kernel
theorem dL_law_0 : decode cL_law 0 = .ok (.new 8, 3) := by decide +kernel
theorem dL_law_3 : decode cL_law 3 = .ok (.dup, 1) := by decide +kernel
theorem dL_law_4 : decode cL_law 4 = .ok (.invokespecial 18, 3) := by decide +kernel
theorem dL_law_7 : decode cL_law 7 = .ok (.astore_n 1, 1) := by decide +kernel
theorem dL_law_8 : decode cL_law 8 = .ok (.new 19, 3) := by decide +kernel
theorem dL_law_11 : decode cL_law 11 = .ok (.dup, 1) := by decide +kernel
theorem dL_law_12 : decode cL_law 12 = .ok (.invokespecial 21, 3) := by decide +kernel
theorem dL_law_15 : decode cL_law 15 = .ok (.astore_n 2, 1) := by decide +kernel
theorem dL_law_16 : decode cL_law 16 = .ok (.iconst 1, 1) := by decide +kernel
theorem dL_law_17 : decode cL_law 17 = .ok (.newarray .long, 2) := by decide +kernel
theorem dL_law_19 : decode cL_law 19 = .ok (.astore_n 3, 1) := by decide +kernel
theorem dL_law_20 : decode cL_law 20 = .ok (.iconst 0, 1) := by decide +kernel
theorem dL_law_21 : decode cL_law 21 = .ok (.istore 4, 2) := by decide +kernel
theorem dL_law_23 : decode cL_law 23 = .ok (.iload 4, 2) := by decide +kernel
theorem dL_law_25 : decode cL_law 25 = .ok (.aload_n 0, 1) := by decide +kernel
theorem dL_law_26 : decode cL_law 26 = .ok (.arraylength, 1) := by decide +kernel
theorem dL_law_27 : decode cL_law 27 = .ok (.bipush 6, 2) := by decide +kernel
theorem dL_law_29 : decode cL_law 29 = .ok (.isub, 1) := by decide +kernel
theorem dL_law_30 : decode cL_law 30 = .ok (.if_icmp .gt 829, 3) := by decide +kernel
theorem dL_law_33 : decode cL_law 33 = .ok (.aload_n 0, 1) := by decide +kernel
theorem dL_law_34 : decode cL_law 34 = .ok (.iload 4, 2) := by decide +kernel
theorem dL_law_36 : decode cL_law 36 = .ok (.iaload, 1) := by decide +kernel
theorem dL_law_37 : decode cL_law 37 = .ok (.bipush 31, 2) := by decide +kernel
theorem dL_law_39 : decode cL_law 39 = .ok (.iand, 1) := by decide +kernel
theorem dL_law_40 : decode cL_law 40 = .ok (.tableswitch 813 0 24 #[116, 189, 214, 227, 240, 277, 300, 337, 350, 363, 400, 425, 481, 537, 562, 587, 624, 637, 650, 675, 712, 737, 762, 775, 800], 116) := by decide +kernel
theorem dL_law_156 : decode cL_law 156 = .ok (.aload_n 1, 1) := by decide +kernel
theorem dL_law_157 : decode cL_law 157 = .ok (.aload_n 0, 1) := by decide +kernel
theorem dL_law_158 : decode cL_law 158 = .ok (.iload 4, 2) := by decide +kernel
theorem dL_law_160 : decode cL_law 160 = .ok (.iconst 1, 1) := by decide +kernel
theorem dL_law_161 : decode cL_law 161 = .ok (.iadd, 1) := by decide +kernel
theorem dL_law_162 : decode cL_law 162 = .ok (.iaload, 1) := by decide +kernel
theorem dL_law_163 : decode cL_law 163 = .ok (.aload_n 0, 1) := by decide +kernel
theorem dL_law_164 : decode cL_law 164 = .ok (.iload 4, 2) := by decide +kernel
theorem dL_law_166 : decode cL_law 166 = .ok (.iconst 2, 1) := by decide +kernel
theorem dL_law_167 : decode cL_law 167 = .ok (.iadd, 1) := by decide +kernel
theorem dL_law_168 : decode cL_law 168 = .ok (.iaload, 1) := by decide +kernel
theorem dL_law_169 : decode cL_law 169 = .ok (.aload_n 0, 1) := by decide +kernel
theorem dL_law_170 : decode cL_law 170 = .ok (.iload 4, 2) := by decide +kernel
theorem dL_law_172 : decode cL_law 172 = .ok (.iconst 3, 1) := by decide +kernel
theorem dL_law_173 : decode cL_law 173 = .ok (.iadd, 1) := by decide +kernel
theorem dL_law_174 : decode cL_law 174 = .ok (.iaload, 1) := by decide +kernel
theorem dL_law_175 : decode cL_law 175 = .ok (.aload_n 0, 1) := by decide +kernel
theorem dL_law_176 : decode cL_law 176 = .ok (.iload 4, 2) := by decide +kernel
theorem dL_law_178 : decode cL_law 178 = .ok (.iconst 4, 1) := by decide +kernel
theorem dL_law_179 : decode cL_law 179 = .ok (.iadd, 1) := by decide +kernel
theorem dL_law_180 : decode cL_law 180 = .ok (.iaload, 1) := by decide +kernel
theorem dL_law_181 : decode cL_law 181 = .ok (.aload_n 0, 1) := by decide +kernel
theorem dL_law_182 : decode cL_law 182 = .ok (.iload 4, 2) := by decide +kernel
theorem dL_law_184 : decode cL_law 184 = .ok (.iconst 5, 1) := by decide +kernel
theorem dL_law_185 : decode cL_law 185 = .ok (.iadd, 1) := by decide +kernel
theorem dL_law_186 : decode cL_law 186 = .ok (.iaload, 1) := by decide +kernel
theorem dL_law_187 : decode cL_law 187 = .ok (.invokevirtual 22, 3) := by decide +kernel
theorem dL_law_190 : decode cL_law 190 = .ok (.aload_n 2, 1) := by decide +kernel
theorem dL_law_191 : decode cL_law 191 = .ok (.aload_n 0, 1) := by decide +kernel
theorem dL_law_192 : decode cL_law 192 = .ok (.iload 4, 2) := by decide +kernel
theorem dL_law_194 : decode cL_law 194 = .ok (.iconst 1, 1) := by decide +kernel
theorem dL_law_195 : decode cL_law 195 = .ok (.iadd, 1) := by decide +kernel
theorem dL_law_196 : decode cL_law 196 = .ok (.iaload, 1) := by decide +kernel
theorem dL_law_197 : decode cL_law 197 = .ok (.aload_n 0, 1) := by decide +kernel
theorem dL_law_198 : decode cL_law 198 = .ok (.iload 4, 2) := by decide +kernel
theorem dL_law_200 : decode cL_law 200 = .ok (.iconst 2, 1) := by decide +kernel
theorem dL_law_201 : decode cL_law 201 = .ok (.iadd, 1) := by decide +kernel
theorem dL_law_202 : decode cL_law 202 = .ok (.iaload, 1) := by decide +kernel
theorem dL_law_203 : decode cL_law 203 = .ok (.aload_n 0, 1) := by decide +kernel
theorem dL_law_204 : decode cL_law 204 = .ok (.iload 4, 2) := by decide +kernel
theorem dL_law_206 : decode cL_law 206 = .ok (.iconst 3, 1) := by decide +kernel
theorem dL_law_207 : decode cL_law 207 = .ok (.iadd, 1) := by decide +kernel
theorem dL_law_208 : decode cL_law 208 = .ok (.iaload, 1) := by decide +kernel
theorem dL_law_209 : decode cL_law 209 = .ok (.aload_n 0, 1) := by decide +kernel
theorem dL_law_210 : decode cL_law 210 = .ok (.iload 4, 2) := by decide +kernel
theorem dL_law_212 : decode cL_law 212 = .ok (.iconst 4, 1) := by decide +kernel
theorem dL_law_213 : decode cL_law 213 = .ok (.iadd, 1) := by decide +kernel
theorem dL_law_214 : decode cL_law 214 = .ok (.iaload, 1) := by decide +kernel
theorem dL_law_215 : decode cL_law 215 = .ok (.aload_n 0, 1) := by decide +kernel
theorem dL_law_216 : decode cL_law 216 = .ok (.iload 4, 2) := by decide +kernel
theorem dL_law_218 : decode cL_law 218 = .ok (.iconst 5, 1) := by decide +kernel
theorem dL_law_219 : decode cL_law 219 = .ok (.iadd, 1) := by decide +kernel
theorem dL_law_220 : decode cL_law 220 = .ok (.iaload, 1) := by decide +kernel
theorem dL_law_221 : decode cL_law 221 = .ok (.invokevirtual 26, 3) := by decide +kernel
theorem dL_law_224 : decode cL_law 224 = .ok (.if_icmp .eq 629, 3) := by decide +kernel
theorem dL_law_227 : decode cL_law 227 = .ok (.iconst 0, 1) := by decide +kernel
theorem dL_law_228 : decode cL_law 228 = .ok (.ireturn, 1) := by decide +kernel
theorem dL_law_229 : decode cL_law 229 = .ok (.aload_n 1, 1) := by decide +kernel
theorem dL_law_230 : decode cL_law 230 = .ok (.aload_n 0, 1) := by decide +kernel
theorem dL_law_231 : decode cL_law 231 = .ok (.iload 4, 2) := by decide +kernel
theorem dL_law_233 : decode cL_law 233 = .ok (.iconst 1, 1) := by decide +kernel
theorem dL_law_234 : decode cL_law 234 = .ok (.iadd, 1) := by decide +kernel
theorem dL_law_235 : decode cL_law 235 = .ok (.iaload, 1) := by decide +kernel
theorem dL_law_236 : decode cL_law 236 = .ok (.invokevirtual 27, 3) := by decide +kernel
theorem dL_law_239 : decode cL_law 239 = .ok (.aload_n 2, 1) := by decide +kernel
theorem dL_law_240 : decode cL_law 240 = .ok (.aload_n 0, 1) := by decide +kernel
theorem dL_law_241 : decode cL_law 241 = .ok (.iload 4, 2) := by decide +kernel
theorem dL_law_243 : decode cL_law 243 = .ok (.iconst 1, 1) := by decide +kernel
theorem dL_law_244 : decode cL_law 244 = .ok (.iadd, 1) := by decide +kernel
theorem dL_law_245 : decode cL_law 245 = .ok (.iaload, 1) := by decide +kernel
theorem dL_law_246 : decode cL_law 246 = .ok (.invokevirtual 30, 3) := by decide +kernel
theorem dL_law_249 : decode cL_law 249 = .ok (.if_icmp .eq 604, 3) := by decide +kernel
theorem dL_law_252 : decode cL_law 252 = .ok (.iconst 0, 1) := by decide +kernel
theorem dL_law_253 : decode cL_law 253 = .ok (.ireturn, 1) := by decide +kernel
theorem dL_law_254 : decode cL_law 254 = .ok (.aload_n 1, 1) := by decide +kernel
theorem dL_law_255 : decode cL_law 255 = .ok (.invokevirtual 31, 3) := by decide +kernel
theorem dL_law_258 : decode cL_law 258 = .ok (.aload_n 2, 1) := by decide +kernel
theorem dL_law_259 : decode cL_law 259 = .ok (.invokevirtual 35, 3) := by decide +kernel
theorem dL_law_262 : decode cL_law 262 = .ok (.if_icmp .eq 591, 3) := by decide +kernel
theorem dL_law_265 : decode cL_law 265 = .ok (.iconst 0, 1) := by decide +kernel
theorem dL_law_266 : decode cL_law 266 = .ok (.ireturn, 1) := by decide +kernel
theorem dL_law_267 : decode cL_law 267 = .ok (.aload_n 1, 1) := by decide +kernel
theorem dL_law_268 : decode cL_law 268 = .ok (.invokevirtual 36, 3) := by decide +kernel
theorem dL_law_271 : decode cL_law 271 = .ok (.aload_n 2, 1) := by decide +kernel
theorem dL_law_272 : decode cL_law 272 = .ok (.invokevirtual 39, 3) := by decide +kernel
theorem dL_law_275 : decode cL_law 275 = .ok (.if_icmp .eq 578, 3) := by decide +kernel
theorem dL_law_278 : decode cL_law 278 = .ok (.iconst 0, 1) := by decide +kernel
theorem dL_law_279 : decode cL_law 279 = .ok (.ireturn, 1) := by decide +kernel
theorem dL_law_280 : decode cL_law 280 = .ok (.aload_n 1, 1) := by decide +kernel
theorem dL_law_281 : decode cL_law 281 = .ok (.aload_n 0, 1) := by decide +kernel
theorem dL_law_282 : decode cL_law 282 = .ok (.iload 4, 2) := by decide +kernel
theorem dL_law_284 : decode cL_law 284 = .ok (.iconst 1, 1) := by decide +kernel
theorem dL_law_285 : decode cL_law 285 = .ok (.iadd, 1) := by decide +kernel
