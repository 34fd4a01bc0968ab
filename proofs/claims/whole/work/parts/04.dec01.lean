theorem dX6_rearrange_99 : decode cX6_rearrange 99 = .ok (.iload_n 3, 1) := by decide +kernel
theorem dX6_rearrange_100 : decode cX6_rearrange 100 = .ok (.invokevirtual 73, 3) := by decide +kernel
theorem dX6_rearrange_103 : decode cX6_rearrange 103 = .ok (.aload_n 0, 1) := by decide +kernel
theorem dX6_rearrange_104 : decode cX6_rearrange 104 = .ok (.iload_n 2, 1) := by decide +kernel
theorem dX6_rearrange_105 : decode cX6_rearrange 105 = .ok (.invokevirtual 73, 3) := by decide +kernel
theorem dX6_rearrange_108 : decode cX6_rearrange 108 = .ok (.aload_n 0, 1) := by decide +kernel
theorem dX6_rearrange_109 : decode cX6_rearrange 109 = .ok (.iload_n 3, 1) := by decide +kernel
theorem dX6_rearrange_110 : decode cX6_rearrange 110 = .ok (.invokevirtual 73, 3) := by decide +kernel
theorem dX6_rearrange_113 : decode cX6_rearrange 113 = .ok (.goto 50, 3) := by decide +kernel
theorem dX6_rearrange_116 : decode cX6_rearrange 116 = .ok (.aload_n 0, 1) := by decide +kernel
theorem dX6_rearrange_117 : decode cX6_rearrange 117 = .ok (.iload_n 3, 1) := by decide +kernel
theorem dX6_rearrange_118 : decode cX6_rearrange 118 = .ok (.iload_n 2, 1) := by decide +kernel
theorem dX6_rearrange_119 : decode cX6_rearrange 119 = .ok (.iadd, 1) := by decide +kernel
theorem dX6_rearrange_120 : decode cX6_rearrange 120 = .ok (.invokevirtual 73, 3) := by decide +kernel
theorem dX6_rearrange_123 : decode cX6_rearrange 123 = .ok (.goto 40, 3) := by decide +kernel
theorem dX6_rearrange_126 : decode cX6_rearrange 126 = .ok (.aload_n 0, 1) := by decide +kernel
theorem dX6_rearrange_127 : decode cX6_rearrange 127 = .ok (.iload_n 3, 1) := by decide +kernel
theorem dX6_rearrange_128 : decode cX6_rearrange 128 = .ok (.iload_n 2, 1) := by decide +kernel
theorem dX6_rearrange_129 : decode cX6_rearrange 129 = .ok (.isub, 1) := by decide +kernel
theorem dX6_rearrange_130 : decode cX6_rearrange 130 = .ok (.invokevirtual 73, 3) := by decide +kernel
theorem dX6_rearrange_133 : decode cX6_rearrange 133 = .ok (.goto 30, 3) := by decide +kernel
theorem dX6_rearrange_136 : decode cX6_rearrange 136 = .ok (.aload_n 0, 1) := by decide +kernel
theorem dX6_rearrange_137 : decode cX6_rearrange 137 = .ok (.iload_n 3, 1) := by decide +kernel
theorem dX6_rearrange_138 : decode cX6_rearrange 138 = .ok (.iload_n 2, 1) := by decide +kernel
theorem dX6_rearrange_139 : decode cX6_rearrange 139 = .ok (.imul, 1) := by decide +kernel
theorem dX6_rearrange_140 : decode cX6_rearrange 140 = .ok (.invokevirtual 73, 3) := by decide +kernel
theorem dX6_rearrange_143 : decode cX6_rearrange 143 = .ok (.goto 20, 3) := by decide +kernel
theorem dX6_rearrange_146 : decode cX6_rearrange 146 = .ok (.aload_n 0, 1) := by decide +kernel
theorem dX6_rearrange_147 : decode cX6_rearrange 147 = .ok (.iload_n 3, 1) := by decide +kernel
theorem dX6_rearrange_148 : decode cX6_rearrange 148 = .ok (.iload_n 2, 1) := by decide +kernel
theorem dX6_rearrange_149 : decode cX6_rearrange 149 = .ok (.if_icmp .ge 7, 3) := by decide +kernel
theorem dX6_rearrange_152 : decode cX6_rearrange 152 = .ok (.iconst 1, 1) := by decide +kernel
theorem dX6_rearrange_153 : decode cX6_rearrange 153 = .ok (.goto 4, 3) := by decide +kernel
theorem dX6_rearrange_156 : decode cX6_rearrange 156 = .ok (.iconst 0, 1) := by decide +kernel
theorem dX6_rearrange_157 : decode cX6_rearrange 157 = .ok (.invokevirtual 73, 3) := by decide +kernel
theorem dX6_rearrange_160 : decode cX6_rearrange 160 = .ok (.goto 3, 3) := by decide +kernel
theorem dX6_rearrange_163 : decode cX6_rearrange 163 = .ok (.return_, 1) := by decide +kernel
theorem dX6_put_0 : decode cX6_put 0 = .ok (.aload_n 0, 1) := by decide +kernel
theorem dX6_put_1 : decode cX6_put 1 = .ok (.getfield 47, 3) := by decide +kernel
theorem dX6_put_4 : decode cX6_put 4 = .ok (.ifCond .lt 32, 3) := by decide +kernel
theorem dX6_put_7 : decode cX6_put 7 = .ok (.aload_n 0, 1) := by decide +kernel
theorem dX6_put_8 : decode cX6_put 8 = .ok (.getfield 47, 3) := by decide +kernel
theorem dX6_put_11 : decode cX6_put 11 = .ok (.bipush 32, 2) := by decide +kernel
theorem dX6_put_13 : decode cX6_put 13 = .ok (.if_icmp .ge 23, 3) := by decide +kernel
theorem dX6_put_16 : decode cX6_put 16 = .ok (.aload_n 0, 1) := by decide +kernel
theorem dX6_put_17 : decode cX6_put 17 = .ok (.getfield 9, 3) := by decide +kernel
theorem dX6_put_20 : decode cX6_put 20 = .ok (.aload_n 0, 1) := by decide +kernel
theorem dX6_put_21 : decode cX6_put 21 = .ok (.getfield 47, 3) := by decide +kernel
theorem dX6_put_24 : decode cX6_put 24 = .ok (.iload_n 1, 1) := by decide +kernel
theorem dX6_put_25 : decode cX6_put 25 = .ok (.iastore, 1) := by decide +kernel
theorem dX6_put_26 : decode cX6_put 26 = .ok (.aload_n 0, 1) := by decide +kernel
theorem dX6_put_27 : decode cX6_put 27 = .ok (.dup, 1) := by decide +kernel
theorem dX6_put_28 : decode cX6_put 28 = .ok (.getfield 47, 3) := by decide +kernel
theorem dX6_put_31 : decode cX6_put 31 = .ok (.iconst 1, 1) := by decide +kernel
theorem dX6_put_32 : decode cX6_put 32 = .ok (.iadd, 1) := by decide +kernel
theorem dX6_put_33 : decode cX6_put 33 = .ok (.putfield 47, 3) := by decide +kernel
theorem dX6_put_36 : decode cX6_put 36 = .ok (.return_, 1) := by decide +kernel
theorem dX6_take_0 : decode cX6_take 0 = .ok (.aload_n 0, 1) := by decide +kernel
theorem dX6_take_1 : decode cX6_take 1 = .ok (.getfield 47, 3) := by decide +kernel
theorem dX6_take_4 : decode cX6_take 4 = .ok (.ifCond .le 12, 3) := by decide +kernel
theorem dX6_take_7 : decode cX6_take 7 = .ok (.aload_n 0, 1) := by decide +kernel
theorem dX6_take_8 : decode cX6_take 8 = .ok (.getfield 47, 3) := by decide +kernel
theorem dX6_take_11 : decode cX6_take 11 = .ok (.bipush 32, 2) := by decide +kernel
theorem dX6_take_13 : decode cX6_take 13 = .ok (.if_icmp .le 5, 3) := by decide +kernel
theorem dX6_take_16 : decode cX6_take 16 = .ok (.iconst 0, 1) := by decide +kernel
theorem dX6_take_17 : decode cX6_take 17 = .ok (.ireturn, 1) := by decide +kernel
theorem dX6_take_18 : decode cX6_take 18 = .ok (.aload_n 0, 1) := by decide +kernel
theorem dX6_take_19 : decode cX6_take 19 = .ok (.dup, 1) := by decide +kernel
theorem dX6_take_20 : decode cX6_take 20 = .ok (.getfield 47, 3) := by decide +kernel
theorem dX6_take_23 : decode cX6_take 23 = .ok (.iconst 1, 1) := by decide +kernel
theorem dX6_take_24 : decode cX6_take 24 = .ok (.isub, 1) := by decide +kernel
theorem dX6_take_25 : decode cX6_take 25 = .ok (.putfield 47, 3) := by decide +kernel
theorem dX6_take_28 : decode cX6_take 28 = .ok (.aload_n 0, 1) := by decide +kernel
theorem dX6_take_29 : decode cX6_take 29 = .ok (.getfield 9, 3) := by decide +kernel
theorem dX6_take_32 : decode cX6_take 32 = .ok (.aload_n 0, 1) := by decide +kernel
theorem dX6_take_33 : decode cX6_take 33 = .ok (.getfield 47, 3) := by decide +kernel
theorem dX6_take_36 : decode cX6_take 36 = .ok (.iaload, 1) := by decide +kernel
theorem dX6_take_37 : decode cX6_take 37 = .ok (.ireturn, 1) := by decide +kernel
theorem dX6_setCell_0 : decode cX6_setCell 0 = .ok (.iload_n 1, 1) := by decide +kernel
theorem dX6_setCell_1 : decode cX6_setCell 1 = .ok (.ifCond .lt 16, 3) := by decide +kernel
theorem dX6_setCell_4 : decode cX6_setCell 4 = .ok (.iload_n 1, 1) := by decide +kernel
theorem dX6_setCell_5 : decode cX6_setCell 5 = .ok (.bipush 8, 2) := by decide +kernel
theorem dX6_setCell_7 : decode cX6_setCell 7 = .ok (.if_icmp .ge 10, 3) := by decide +kernel
theorem dX6_setCell_10 : decode cX6_setCell 10 = .ok (.aload_n 0, 1) := by decide +kernel
theorem dX6_setCell_11 : decode cX6_setCell 11 = .ok (.getfield 15, 3) := by decide +kernel
theorem dX6_setCell_14 : decode cX6_setCell 14 = .ok (.iload_n 1, 1) := by decide +kernel
theorem dX6_setCell_15 : decode cX6_setCell 15 = .ok (.iload_n 2, 1) := by decide +kernel
theorem dX6_setCell_16 : decode cX6_setCell 16 = .ok (.iastore, 1) := by decide +kernel
theorem dX6_setCell_17 : decode cX6_setCell 17 = .ok (.return_, 1) := by decide +kernel
theorem dX6_tellOut_0 : decode cX6_tellOut 0 = .ok (.aload_n 0, 1) := by decide +kernel
theorem dX6_tellOut_1 : decode cX6_tellOut 1 = .ok (.getfield 53, 3) := by decide +kernel
theorem dX6_tellOut_4 : decode cX6_tellOut 4 = .ok (.ifCond .lt 22, 3) := by decide +kernel
theorem dX6_tellOut_7 : decode cX6_tellOut 7 = .ok (.aload_n 0, 1) := by decide +kernel
theorem dX6_tellOut_8 : decode cX6_tellOut 8 = .ok (.getfield 53, 3) := by decide +kernel
theorem dX6_tellOut_11 : decode cX6_tellOut 11 = .ok (.bipush 60, 2) := by decide +kernel
theorem dX6_tellOut_13 : decode cX6_tellOut 13 = .ok (.if_icmp .ge 13, 3) := by decide +kernel
theorem dX6_tellOut_16 : decode cX6_tellOut 16 = .ok (.aload_n 0, 1) := by decide +kernel
theorem dX6_tellOut_17 : decode cX6_tellOut 17 = .ok (.getfield 18, 3) := by decide +kernel
theorem dX6_tellOut_20 : decode cX6_tellOut 20 = .ok (.aload_n 0, 1) := by decide +kernel
theorem dX6_tellOut_21 : decode cX6_tellOut 21 = .ok (.getfield 53, 3) := by decide +kernel
theorem dX6_tellOut_24 : decode cX6_tellOut 24 = .ok (.iload_n 1, 1) := by decide +kernel
theorem dX6_tellOut_25 : decode cX6_tellOut 25 = .ok (.iastore, 1) := by decide +kernel
theorem dX6_tellOut_26 : decode cX6_tellOut 26 = .ok (.aload_n 0, 1) := by decide +kernel
theorem dX6_tellOut_27 : decode cX6_tellOut 27 = .ok (.dup, 1) := by decide +kernel
theorem dX6_tellOut_28 : decode cX6_tellOut 28 = .ok (.getfield 53, 3) := by decide +kernel
theorem dX6_tellOut_31 : decode cX6_tellOut 31 = .ok (.iconst 1, 1) := by decide +kernel
theorem dX6_tellOut_32 : decode cX6_tellOut 32 = .ok (.iadd, 1) := by decide +kernel
theorem dX6_tellOut_33 : decode cX6_tellOut 33 = .ok (.putfield 53, 3) := by decide +kernel
theorem dX6_tellOut_36 : decode cX6_tellOut 36 = .ok (.return_, 1) := by decide +kernel
theorem dX6_keepTraces_0 : decode cX6_keepTraces 0 = .ok (.aload_n 0, 1) := by decide +kernel
theorem dX6_keepTraces_1 : decode cX6_keepTraces 1 = .ok (.iconst 0, 1) := by decide +kernel
theorem dX6_keepTraces_2 : decode cX6_keepTraces 2 = .ok (.putfield 62, 3) := by decide +kernel
theorem dX6_keepTraces_5 : decode cX6_keepTraces 5 = .ok (.iconst 0, 1) := by decide +kernel
theorem dX6_keepTraces_6 : decode cX6_keepTraces 6 = .ok (.istore_n 2, 1) := by decide +kernel
theorem dX6_keepTraces_7 : decode cX6_keepTraces 7 = .ok (.iload_n 2, 1) := by decide +kernel
theorem dX6_keepTraces_8 : decode cX6_keepTraces 8 = .ok (.bipush 100, 2) := by decide +kernel
theorem dX6_keepTraces_10 : decode cX6_keepTraces 10 = .ok (.if_icmp .ge 39, 3) := by decide +kernel
theorem dX6_keepTraces_13 : decode cX6_keepTraces 13 = .ok (.aload_n 0, 1) := by decide +kernel
theorem dX6_keepTraces_14 : decode cX6_keepTraces 14 = .ok (.getfield 27, 3) := by decide +kernel
theorem dX6_keepTraces_17 : decode cX6_keepTraces 17 = .ok (.iload_n 2, 1) := by decide +kernel
theorem dX6_keepTraces_18 : decode cX6_keepTraces 18 = .ok (.aload_n 1, 1) := by decide +kernel
theorem dX6_keepTraces_19 : decode cX6_keepTraces 19 = .ok (.iload_n 2, 1) := by decide +kernel
theorem dX6_keepTraces_20 : decode cX6_keepTraces 20 = .ok (.invokevirtual 180, 3) := by decide +kernel
theorem dX6_keepTraces_23 : decode cX6_keepTraces 23 = .ok (.iastore, 1) := by decide +kernel
theorem dX6_keepTraces_24 : decode cX6_keepTraces 24 = .ok (.aload_n 0, 1) := by decide +kernel
theorem dX6_keepTraces_25 : decode cX6_keepTraces 25 = .ok (.getfield 27, 3) := by decide +kernel
theorem dX6_keepTraces_28 : decode cX6_keepTraces 28 = .ok (.iload_n 2, 1) := by decide +kernel
theorem dX6_keepTraces_29 : decode cX6_keepTraces 29 = .ok (.iaload, 1) := by decide +kernel
theorem dX6_keepTraces_30 : decode cX6_keepTraces 30 = .ok (.ifCond .le 13, 3) := by decide +kernel
theorem dX6_keepTraces_33 : decode cX6_keepTraces 33 = .ok (.aload_n 0, 1) := by decide +kernel
theorem dX6_keepTraces_34 : decode cX6_keepTraces 34 = .ok (.dup, 1) := by decide +kernel
theorem dX6_keepTraces_35 : decode cX6_keepTraces 35 = .ok (.getfield 62, 3) := by decide +kernel
theorem dX6_keepTraces_38 : decode cX6_keepTraces 38 = .ok (.iconst 1, 1) := by decide +kernel
theorem dX6_keepTraces_39 : decode cX6_keepTraces 39 = .ok (.iadd, 1) := by decide +kernel
theorem dX6_keepTraces_40 : decode cX6_keepTraces 40 = .ok (.putfield 62, 3) := by decide +kernel
theorem dX6_keepTraces_43 : decode cX6_keepTraces 43 = .ok (.iinc 2 1, 3) := by decide +kernel
theorem dX6_keepTraces_46 : decode cX6_keepTraces 46 = .ok (.goto (-39), 3) := by decide +kernel
theorem dX6_keepTraces_49 : decode cX6_keepTraces 49 = .ok (.return_, 1) := by decide +kernel
theorem dX7_init_0 : decode cX7_init 0 = .ok (.aload_n 0, 1) := by decide +kernel
theorem dX7_init_1 : decode cX7_init 1 = .ok (.invokespecial 1, 3) := by decide +kernel
theorem dX7_init_4 : decode cX7_init 4 = .ok (.aload_n 0, 1) := by decide +kernel
theorem dX7_init_5 : decode cX7_init 5 = .ok (.iload_n 1, 1) := by decide +kernel
theorem dX7_init_6 : decode cX7_init 6 = .ok (.putfield 7, 3) := by decide +kernel
theorem dX7_init_9 : decode cX7_init 9 = .ok (.return_, 1) := by decide +kernel
theorem dX7_begin_0 : decode cX7_begin 0 = .ok (.return_, 1) := by decide +kernel
theorem dX7_price_0 : decode cX7_price 0 = .ok (.aload_n 0, 1) := by decide +kernel
theorem dX7_price_1 : decode cX7_price 1 = .ok (.getfield 7, 3) := by decide +kernel
theorem dX7_price_4 : decode cX7_price 4 = .ok (.ireturn, 1) := by decide +kernel
theorem dX8_init_0 : decode cX8_init 0 = .ok (.aload_n 0, 1) := by decide +kernel
theorem dX8_init_1 : decode cX8_init 1 = .ok (.invokespecial 3, 3) := by decide +kernel
theorem dX8_init_4 : decode cX8_init 4 = .ok (.aload_n 0, 1) := by decide +kernel
theorem dX8_init_5 : decode cX8_init 5 = .ok (.bipush 100, 2) := by decide +kernel
theorem dX8_init_7 : decode cX8_init 7 = .ok (.newarray .int, 2) := by decide +kernel
theorem dX8_init_9 : decode cX8_init 9 = .ok (.putfield 9, 3) := by decide +kernel
theorem dX8_init_12 : decode cX8_init 12 = .ok (.aload_n 0, 1) := by decide +kernel
theorem dX8_init_13 : decode cX8_init 13 = .ok (.bipush 100, 2) := by decide +kernel
theorem dX8_init_15 : decode cX8_init 15 = .ok (.newarray .int, 2) := by decide +kernel
theorem dX8_init_17 : decode cX8_init 17 = .ok (.putfield 15, 3) := by decide +kernel
theorem dX8_init_20 : decode cX8_init 20 = .ok (.aload_n 0, 1) := by decide +kernel
theorem dX8_init_21 : decode cX8_init 21 = .ok (.bipush 100, 2) := by decide +kernel
theorem dX8_init_23 : decode cX8_init 23 = .ok (.newarray .boolean, 2) := by decide +kernel
theorem dX8_init_25 : decode cX8_init 25 = .ok (.putfield 18, 3) := by decide +kernel
theorem dX8_init_28 : decode cX8_init 28 = .ok (.aload_n 0, 1) := by decide +kernel
theorem dX8_init_29 : decode cX8_init 29 = .ok (.iconst 0, 1) := by decide +kernel
theorem dX8_init_30 : decode cX8_init 30 = .ok (.putfield 22, 3) := by decide +kernel
theorem dX8_init_33 : decode cX8_init 33 = .ok (.return_, 1) := by decide +kernel
theorem dX8_clear_0 : decode cX8_clear 0 = .ok (.aload_n 0, 1) := by decide +kernel
theorem dX8_clear_1 : decode cX8_clear 1 = .ok (.iconst 0, 1) := by decide +kernel
theorem dX8_clear_2 : decode cX8_clear 2 = .ok (.putfield 22, 3) := by decide +kernel
theorem dX8_clear_5 : decode cX8_clear 5 = .ok (.return_, 1) := by decide +kernel
theorem dX8_add_0 : decode cX8_add 0 = .ok (.aload_n 0, 1) := by decide +kernel
theorem dX8_add_1 : decode cX8_add 1 = .ok (.getfield 22, 3) := by decide +kernel
theorem dX8_add_4 : decode cX8_add 4 = .ok (.bipush 100, 2) := by decide +kernel
theorem dX8_add_6 : decode cX8_add 6 = .ok (.if_icmp .ge 43, 3) := by decide +kernel
theorem dX8_add_9 : decode cX8_add 9 = .ok (.aload_n 0, 1) := by decide +kernel
theorem dX8_add_10 : decode cX8_add 10 = .ok (.getfield 9, 3) := by decide +kernel
theorem dX8_add_13 : decode cX8_add 13 = .ok (.aload_n 0, 1) := by decide +kernel
theorem dX8_add_14 : decode cX8_add 14 = .ok (.getfield 22, 3) := by decide +kernel
theorem dX8_add_17 : decode cX8_add 17 = .ok (.iload_n 1, 1) := by decide +kernel
theorem dX8_add_18 : decode cX8_add 18 = .ok (.iastore, 1) := by decide +kernel
theorem dX8_add_19 : decode cX8_add 19 = .ok (.aload_n 0, 1) := by decide +kernel
theorem dX8_add_20 : decode cX8_add 20 = .ok (.getfield 15, 3) := by decide +kernel
theorem dX8_add_23 : decode cX8_add 23 = .ok (.aload_n 0, 1) := by decide +kernel
theorem dX8_add_24 : decode cX8_add 24 = .ok (.getfield 22, 3) := by decide +kernel
theorem dX8_add_27 : decode cX8_add 27 = .ok (.iload_n 2, 1) := by decide +kernel
theorem dX8_add_28 : decode cX8_add 28 = .ok (.iastore, 1) := by decide +kernel
theorem dX8_add_29 : decode cX8_add 29 = .ok (.aload_n 0, 1) := by decide +kernel
theorem dX8_add_30 : decode cX8_add 30 = .ok (.getfield 18, 3) := by decide +kernel
theorem dX8_add_33 : decode cX8_add 33 = .ok (.aload_n 0, 1) := by decide +kernel
theorem dX8_add_34 : decode cX8_add 34 = .ok (.getfield 22, 3) := by decide +kernel
theorem dX8_add_37 : decode cX8_add 37 = .ok (.iload_n 3, 1) := by decide +kernel
theorem dX8_add_38 : decode cX8_add 38 = .ok (.bastore, 1) := by decide +kernel
theorem dX8_add_39 : decode cX8_add 39 = .ok (.aload_n 0, 1) := by decide +kernel
theorem dX8_add_40 : decode cX8_add 40 = .ok (.dup, 1) := by decide +kernel
theorem dX8_add_41 : decode cX8_add 41 = .ok (.getfield 22, 3) := by decide +kernel
theorem dX8_add_44 : decode cX8_add 44 = .ok (.iconst 1, 1) := by decide +kernel
theorem dX8_add_45 : decode cX8_add 45 = .ok (.iadd, 1) := by decide +kernel
theorem dX8_add_46 : decode cX8_add 46 = .ok (.putfield 22, 3) := by decide +kernel
theorem dX8_add_49 : decode cX8_add 49 = .ok (.return_, 1) := by decide +kernel
theorem dX8_has_0 : decode cX8_has 0 = .ok (.iload_n 1, 1) := by decide +kernel
theorem dX8_has_1 : decode cX8_has 1 = .ok (.ifCond .lt 21, 3) := by decide +kernel
theorem dX8_has_4 : decode cX8_has 4 = .ok (.iload_n 1, 1) := by decide +kernel
theorem dX8_has_5 : decode cX8_has 5 = .ok (.aload_n 0, 1) := by decide +kernel
theorem dX8_has_6 : decode cX8_has 6 = .ok (.getfield 22, 3) := by decide +kernel
theorem dX8_has_9 : decode cX8_has 9 = .ok (.if_icmp .ge 13, 3) := by decide +kernel
theorem dX8_has_12 : decode cX8_has 12 = .ok (.iload_n 1, 1) := by decide +kernel
theorem dX8_has_13 : decode cX8_has 13 = .ok (.bipush 100, 2) := by decide +kernel
theorem dX8_has_15 : decode cX8_has 15 = .ok (.if_icmp .ge 7, 3) := by decide +kernel
theorem dX8_has_18 : decode cX8_has 18 = .ok (.iconst 1, 1) := by decide +kernel
theorem dX8_has_19 : decode cX8_has 19 = .ok (.goto 4, 3) := by decide +kernel
theorem dX8_has_22 : decode cX8_has 22 = .ok (.iconst 0, 1) := by decide +kernel
theorem dX8_has_23 : decode cX8_has 23 = .ok (.ireturn, 1) := by decide +kernel
theorem dX8_kindAt_0 : decode cX8_kindAt 0 = .ok (.aload_n 0, 1) := by decide +kernel
theorem dX8_kindAt_1 : decode cX8_kindAt 1 = .ok (.iload_n 1, 1) := by decide +kernel
theorem dX8_kindAt_2 : decode cX8_kindAt 2 = .ok (.invokevirtual 26, 3) := by decide +kernel
theorem dX8_kindAt_5 : decode cX8_kindAt 5 = .ok (.ifCond .eq 12, 3) := by decide +kernel
theorem dX8_kindAt_8 : decode cX8_kindAt 8 = .ok (.aload_n 0, 1) := by decide +kernel
theorem dX8_kindAt_9 : decode cX8_kindAt 9 = .ok (.getfield 9, 3) := by decide +kernel
theorem dX8_kindAt_12 : decode cX8_kindAt 12 = .ok (.iload_n 1, 1) := by decide +kernel
theorem dX8_kindAt_13 : decode cX8_kindAt 13 = .ok (.iaload, 1) := by decide +kernel
theorem dX8_kindAt_14 : decode cX8_kindAt 14 = .ok (.goto 4, 3) := by decide +kernel
theorem dX8_kindAt_17 : decode cX8_kindAt 17 = .ok (.iconst (-1), 1) := by decide +kernel
theorem dX8_kindAt_18 : decode cX8_kindAt 18 = .ok (.istore_n 2, 1) := by decide +kernel
theorem dX8_kindAt_19 : decode cX8_kindAt 19 = .ok (.iload_n 2, 1) := by decide +kernel
theorem dX8_kindAt_20 : decode cX8_kindAt 20 = .ok (.ifCond .lt 19, 3) := by decide +kernel
theorem dX8_kindAt_23 : decode cX8_kindAt 23 = .ok (.iload_n 2, 1) := by decide +kernel
theorem dX8_kindAt_24 : decode cX8_kindAt 24 = .ok (.getstatic 30, 3) := by decide +kernel
theorem dX8_kindAt_27 : decode cX8_kindAt 27 = .ok (.arraylength, 1) := by decide +kernel
theorem dX8_kindAt_28 : decode cX8_kindAt 28 = .ok (.if_icmp .ge 11, 3) := by decide +kernel
theorem dX8_kindAt_31 : decode cX8_kindAt 31 = .ok (.getstatic 30, 3) := by decide +kernel
theorem dX8_kindAt_34 : decode cX8_kindAt 34 = .ok (.iload_n 2, 1) := by decide +kernel
theorem dX8_kindAt_35 : decode cX8_kindAt 35 = .ok (.aaload, 1) := by decide +kernel
theorem dX8_kindAt_36 : decode cX8_kindAt 36 = .ok (.goto 6, 3) := by decide +kernel
theorem dX8_kindAt_39 : decode cX8_kindAt 39 = .ok (.getstatic 34, 3) := by decide +kernel
theorem dX8_kindAt_42 : decode cX8_kindAt 42 = .ok (.areturn, 1) := by decide +kernel
theorem dX8_operandAt_0 : decode cX8_operandAt 0 = .ok (.aload_n 0, 1) := by decide +kernel
theorem dX8_operandAt_1 : decode cX8_operandAt 1 = .ok (.iload_n 1, 1) := by decide +kernel
theorem dX8_operandAt_2 : decode cX8_operandAt 2 = .ok (.invokevirtual 26, 3) := by decide +kernel
theorem dX8_operandAt_5 : decode cX8_operandAt 5 = .ok (.ifCond .eq 12, 3) := by decide +kernel
theorem dX8_operandAt_8 : decode cX8_operandAt 8 = .ok (.aload_n 0, 1) := by decide +kernel
theorem dX8_operandAt_9 : decode cX8_operandAt 9 = .ok (.getfield 15, 3) := by decide +kernel
theorem dX8_operandAt_12 : decode cX8_operandAt 12 = .ok (.iload_n 1, 1) := by decide +kernel
theorem dX8_operandAt_13 : decode cX8_operandAt 13 = .ok (.iaload, 1) := by decide +kernel
theorem dX8_operandAt_14 : decode cX8_operandAt 14 = .ok (.goto 4, 3) := by decide +kernel
theorem dX8_operandAt_17 : decode cX8_operandAt 17 = .ok (.iconst 0, 1) := by decide +kernel
theorem dX8_operandAt_18 : decode cX8_operandAt 18 = .ok (.ireturn, 1) := by decide +kernel
theorem dX8_setOperand_0 : decode cX8_setOperand 0 = .ok (.aload_n 0, 1) := by decide +kernel
theorem dX8_setOperand_1 : decode cX8_setOperand 1 = .ok (.iload_n 1, 1) := by decide +kernel
theorem dX8_setOperand_2 : decode cX8_setOperand 2 = .ok (.invokevirtual 26, 3) := by decide +kernel
theorem dX8_setOperand_5 : decode cX8_setOperand 5 = .ok (.ifCond .eq 10, 3) := by decide +kernel
theorem dX8_setOperand_8 : decode cX8_setOperand 8 = .ok (.aload_n 0, 1) := by decide +kernel
theorem dX8_setOperand_9 : decode cX8_setOperand 9 = .ok (.getfield 15, 3) := by decide +kernel
theorem dX8_setOperand_12 : decode cX8_setOperand 12 = .ok (.iload_n 1, 1) := by decide +kernel
theorem dX8_setOperand_13 : decode cX8_setOperand 13 = .ok (.iload_n 2, 1) := by decide +kernel
theorem dX8_setOperand_14 : decode cX8_setOperand 14 = .ok (.iastore, 1) := by decide +kernel
theorem dX8_setOperand_15 : decode cX8_setOperand 15 = .ok (.return_, 1) := by decide +kernel
theorem dX8_isMarked_0 : decode cX8_isMarked 0 = .ok (.aload_n 0, 1) := by decide +kernel
theorem dX8_isMarked_1 : decode cX8_isMarked 1 = .ok (.iload_n 1, 1) := by decide +kernel
theorem dX8_isMarked_2 : decode cX8_isMarked 2 = .ok (.invokevirtual 26, 3) := by decide +kernel
theorem dX8_isMarked_5 : decode cX8_isMarked 5 = .ok (.ifCond .eq 16, 3) := by decide +kernel
theorem dX8_isMarked_8 : decode cX8_isMarked 8 = .ok (.aload_n 0, 1) := by decide +kernel
theorem dX8_isMarked_9 : decode cX8_isMarked 9 = .ok (.getfield 18, 3) := by decide +kernel
theorem dX8_isMarked_12 : decode cX8_isMarked 12 = .ok (.iload_n 1, 1) := by decide +kernel
theorem dX8_isMarked_13 : decode cX8_isMarked 13 = .ok (.baload, 1) := by decide +kernel
theorem dX8_isMarked_14 : decode cX8_isMarked 14 = .ok (.ifCond .eq 7, 3) := by decide +kernel
theorem dX8_isMarked_17 : decode cX8_isMarked 17 = .ok (.iconst 1, 1) := by decide +kernel
theorem dX8_isMarked_18 : decode cX8_isMarked 18 = .ok (.goto 4, 3) := by decide +kernel
theorem dX8_isMarked_21 : decode cX8_isMarked 21 = .ok (.iconst 0, 1) := by decide +kernel
theorem dX8_isMarked_22 : decode cX8_isMarked 22 = .ok (.ireturn, 1) := by decide +kernel
theorem dX9_init_0 : decode cX9_init 0 = .ok (.aload_n 0, 1) := by decide +kernel
theorem dX9_init_1 : decode cX9_init 1 = .ok (.invokespecial 3, 3) := by decide +kernel
theorem dX9_init_4 : decode cX9_init 4 = .ok (.aload_n 0, 1) := by decide +kernel
theorem dX9_init_5 : decode cX9_init 5 = .ok (.sipush 600, 3) := by decide +kernel
theorem dX9_init_8 : decode cX9_init 8 = .ok (.newarray .int, 2) := by decide +kernel
theorem dX9_init_10 : decode cX9_init 10 = .ok (.putfield 9, 3) := by decide +kernel
theorem dX9_init_13 : decode cX9_init 13 = .ok (.aload_n 0, 1) := by decide +kernel
theorem dX9_init_14 : decode cX9_init 14 = .ok (.bipush 100, 2) := by decide +kernel
theorem dX9_init_16 : decode cX9_init 16 = .ok (.newarray .int, 2) := by decide +kernel
theorem dX9_init_18 : decode cX9_init 18 = .ok (.putfield 15, 3) := by decide +kernel
theorem dX9_init_21 : decode cX9_init 21 = .ok (.aload_n 0, 1) := by decide +kernel
theorem dX9_init_22 : decode cX9_init 22 = .ok (.bipush 100, 2) := by decide +kernel
theorem dX9_init_24 : decode cX9_init 24 = .ok (.newarray .int, 2) := by decide +kernel
theorem dX9_init_26 : decode cX9_init 26 = .ok (.putfield 18, 3) := by decide +kernel
theorem dX9_init_29 : decode cX9_init 29 = .ok (.aload_n 0, 1) := by decide +kernel
theorem dX9_init_30 : decode cX9_init 30 = .ok (.bipush 100, 2) := by decide +kernel
theorem dX9_init_32 : decode cX9_init 32 = .ok (.newarray .int, 2) := by decide +kernel
theorem dX9_init_34 : decode cX9_init 34 = .ok (.putfield 21, 3) := by decide +kernel
theorem dX9_init_37 : decode cX9_init 37 = .ok (.aload_n 0, 1) := by decide +kernel
theorem dX9_init_38 : decode cX9_init 38 = .ok (.bipush 100, 2) := by decide +kernel
theorem dX9_init_40 : decode cX9_init 40 = .ok (.newarray .int, 2) := by decide +kernel
theorem dX9_init_42 : decode cX9_init 42 = .ok (.putfield 24, 3) := by decide +kernel
theorem dX9_init_45 : decode cX9_init 45 = .ok (.aload_n 0, 1) := by decide +kernel
theorem dX9_init_46 : decode cX9_init 46 = .ok (.iconst 0, 1) := by decide +kernel
theorem dX9_init_47 : decode cX9_init 47 = .ok (.putfield 27, 3) := by decide +kernel
theorem dX9_init_50 : decode cX9_init 50 = .ok (.aload_n 0, 1) := by decide +kernel
theorem dX9_init_51 : decode cX9_init 51 = .ok (.iconst 5, 1) := by decide +kernel
theorem dX9_init_52 : decode cX9_init 52 = .ok (.putfield 31, 3) := by decide +kernel
theorem dX9_init_55 : decode cX9_init 55 = .ok (.aload_n 0, 1) := by decide +kernel
theorem dX9_init_56 : decode cX9_init 56 = .ok (.iconst 0, 1) := by decide +kernel
theorem dX9_init_57 : decode cX9_init 57 = .ok (.putfield 34, 3) := by decide +kernel
theorem dX9_init_60 : decode cX9_init 60 = .ok (.aload_n 0, 1) := by decide +kernel
theorem dX9_init_61 : decode cX9_init 61 = .ok (.iconst 0, 1) := by decide +kernel
theorem dX9_init_62 : decode cX9_init 62 = .ok (.putfield 37, 3) := by decide +kernel
theorem dX9_init_65 : decode cX9_init 65 = .ok (.aload_n 0, 1) := by decide +kernel
theorem dX9_init_66 : decode cX9_init 66 = .ok (.iconst 0, 1) := by decide +kernel
theorem dX9_init_67 : decode cX9_init 67 = .ok (.putfield 40, 3) := by decide +kernel
theorem dX9_init_70 : decode cX9_init 70 = .ok (.aload_n 0, 1) := by decide +kernel
theorem dX9_init_71 : decode cX9_init 71 = .ok (.iconst 0, 1) := by decide +kernel
theorem dX9_init_72 : decode cX9_init 72 = .ok (.putfield 43, 3) := by decide +kernel
theorem dX9_init_75 : decode cX9_init 75 = .ok (.aload_n 0, 1) := by decide +kernel
theorem dX9_init_76 : decode cX9_init 76 = .ok (.iconst 0, 1) := by decide +kernel
theorem dX9_init_77 : decode cX9_init 77 = .ok (.putfield 46, 3) := by decide +kernel
theorem dX9_init_80 : decode cX9_init 80 = .ok (.aload_n 0, 1) := by decide +kernel
theorem dX9_init_81 : decode cX9_init 81 = .ok (.iconst (-1), 1) := by decide +kernel
theorem dX9_init_82 : decode cX9_init 82 = .ok (.putfield 49, 3) := by decide +kernel
theorem dX9_init_85 : decode cX9_init 85 = .ok (.return_, 1) := by decide +kernel
theorem dX9_read_0 : decode cX9_read 0 = .ok (.aload_n 0, 1) := by decide +kernel
theorem dX9_read_1 : decode cX9_read 1 = .ok (.iconst 0, 1) := by decide +kernel
theorem dX9_read_2 : decode cX9_read 2 = .ok (.iload_n 2, 1) := by decide +kernel
theorem dX9_read_3 : decode cX9_read 3 = .ok (.aload_n 1, 1) := by decide +kernel
theorem dX9_read_4 : decode cX9_read 4 = .ok (.arraylength, 1) := by decide +kernel
theorem dX9_read_5 : decode cX9_read 5 = .ok (.sipush 600, 3) := by decide +kernel
theorem dX9_read_8 : decode cX9_read 8 = .ok (.invokestatic 52, 3) := by decide +kernel
theorem dX9_read_11 : decode cX9_read 11 = .ok (.invokestatic 52, 3) := by decide +kernel
theorem dX9_read_14 : decode cX9_read 14 = .ok (.invokestatic 58, 3) := by decide +kernel
theorem dX9_read_17 : decode cX9_read 17 = .ok (.putfield 27, 3) := by decide +kernel
theorem dX9_read_20 : decode cX9_read 20 = .ok (.aload_n 1, 1) := by decide +kernel
theorem dX9_read_21 : decode cX9_read 21 = .ok (.iconst 0, 1) := by decide +kernel
theorem dX9_read_22 : decode cX9_read 22 = .ok (.aload_n 0, 1) := by decide +kernel
theorem dX9_read_23 : decode cX9_read 23 = .ok (.getfield 9, 3) := by decide +kernel
theorem dX9_read_26 : decode cX9_read 26 = .ok (.iconst 0, 1) := by decide +kernel
theorem dX9_read_27 : decode cX9_read 27 = .ok (.aload_n 0, 1) := by decide +kernel
theorem dX9_read_28 : decode cX9_read 28 = .ok (.getfield 27, 3) := by decide +kernel
theorem dX9_read_31 : decode cX9_read 31 = .ok (.invokestatic 61, 3) := by decide +kernel
theorem dX9_read_34 : decode cX9_read 34 = .ok (.aload_n 0, 1) := by decide +kernel
theorem dX9_read_35 : decode cX9_read 35 = .ok (.iconst 0, 1) := by decide +kernel
theorem dX9_read_36 : decode cX9_read 36 = .ok (.putfield 46, 3) := by decide +kernel
theorem dX9_read_39 : decode cX9_read 39 = .ok (.aload_n 0, 1) := by decide +kernel
theorem dX9_read_40 : decode cX9_read 40 = .ok (.iconst (-1), 1) := by decide +kernel
theorem dX9_read_41 : decode cX9_read 41 = .ok (.putfield 49, 3) := by decide +kernel
theorem dX9_read_44 : decode cX9_read 44 = .ok (.aload_n 0, 1) := by decide +kernel
theorem dX9_read_45 : decode cX9_read 45 = .ok (.iconst 0, 1) := by decide +kernel
theorem dX9_read_46 : decode cX9_read 46 = .ok (.putfield 37, 3) := by decide +kernel
theorem dX9_read_49 : decode cX9_read 49 = .ok (.aload_n 3, 1) := by decide +kernel
theorem dX9_read_50 : decode cX9_read 50 = .ok (.invokevirtual 67, 3) := by decide +kernel
theorem dX9_read_53 : decode cX9_read 53 = .ok (.aload_n 0, 1) := by decide +kernel
theorem dX9_read_54 : decode cX9_read 54 = .ok (.invokevirtual 72, 3) := by decide +kernel
theorem dX9_read_57 : decode cX9_read 57 = .ok (.aload_n 0, 1) := by decide +kernel
theorem dX9_read_58 : decode cX9_read 58 = .ok (.aload_n 3, 1) := by decide +kernel
theorem dX9_read_59 : decode cX9_read 59 = .ok (.invokevirtual 75, 3) := by decide +kernel
theorem dX9_read_62 : decode cX9_read 62 = .ok (.istore 4, 2) := by decide +kernel
theorem dX9_read_64 : decode cX9_read 64 = .ok (.iconst 1, 1) := by decide +kernel
theorem dX9_read_65 : decode cX9_read 65 = .ok (.istore 5, 2) := by decide +kernel
theorem dX9_read_67 : decode cX9_read 67 = .ok (.iload 5, 2) := by decide +kernel
theorem dX9_read_69 : decode cX9_read 69 = .ok (.bipush 100, 2) := by decide +kernel
theorem dX9_read_71 : decode cX9_read 71 = .ok (.if_icmp .gt 29, 3) := by decide +kernel
theorem dX9_read_74 : decode cX9_read 74 = .ok (.iload 4, 2) := by decide +kernel
theorem dX9_read_76 : decode cX9_read 76 = .ok (.ifCond .eq 24, 3) := by decide +kernel
theorem dX9_read_79 : decode cX9_read 79 = .ok (.aload_n 0, 1) := by decide +kernel
theorem dX9_read_80 : decode cX9_read 80 = .ok (.getfield 31, 3) := by decide +kernel
theorem dX9_read_83 : decode cX9_read 83 = .ok (.iconst 5, 1) := by decide +kernel
theorem dX9_read_84 : decode cX9_read 84 = .ok (.if_icmp .eq 16, 3) := by decide +kernel
theorem dX9_read_87 : decode cX9_read 87 = .ok (.aload_n 0, 1) := by decide +kernel
theorem dX9_read_88 : decode cX9_read 88 = .ok (.aload_n 3, 1) := by decide +kernel
theorem dX9_read_89 : decode cX9_read 89 = .ok (.invokevirtual 75, 3) := by decide +kernel
theorem dX9_read_92 : decode cX9_read 92 = .ok (.istore 4, 2) := by decide +kernel
theorem dX9_read_94 : decode cX9_read 94 = .ok (.iinc 5 1, 3) := by decide +kernel
theorem dX9_read_97 : decode cX9_read 97 = .ok (.goto (-30), 3) := by decide +kernel
theorem dX9_read_100 : decode cX9_read 100 = .ok (.iload 4, 2) := by decide +kernel
theorem dX9_read_102 : decode cX9_read 102 = .ok (.ifCond .eq 8, 3) := by decide +kernel
theorem dX9_read_105 : decode cX9_read 105 = .ok (.aload_n 0, 1) := by decide +kernel
theorem dX9_read_106 : decode cX9_read 106 = .ok (.aload_n 3, 1) := by decide +kernel
theorem dX9_read_107 : decode cX9_read 107 = .ok (.invokevirtual 79, 3) := by decide +kernel
theorem dX9_read_110 : decode cX9_read 110 = .ok (.aload_n 0, 1) := by decide +kernel
theorem dX9_read_111 : decode cX9_read 111 = .ok (.getfield 46, 3) := by decide +kernel
theorem dX9_read_114 : decode cX9_read 114 = .ok (.ireturn, 1) := by decide +kernel
theorem dX9_fail_0 : decode cX9_fail 0 = .ok (.aload_n 0, 1) := by decide +kernel
theorem dX9_fail_1 : decode cX9_fail 1 = .ok (.iload_n 1, 1) := by decide +kernel
theorem dX9_fail_2 : decode cX9_fail 2 = .ok (.putfield 46, 3) := by decide +kernel
theorem dX9_fail_5 : decode cX9_fail 5 = .ok (.aload_n 0, 1) := by decide +kernel
theorem dX9_fail_6 : decode cX9_fail 6 = .ok (.iload_n 2, 1) := by decide +kernel
theorem dX9_fail_7 : decode cX9_fail 7 = .ok (.putfield 49, 3) := by decide +kernel
theorem dX9_fail_10 : decode cX9_fail 10 = .ok (.iconst 0, 1) := by decide +kernel
theorem dX9_fail_11 : decode cX9_fail 11 = .ok (.ireturn, 1) := by decide +kernel
theorem dX9_readItem_0 : decode cX9_readItem 0 = .ok (.aload_n 0, 1) := by decide +kernel
theorem dX9_readItem_1 : decode cX9_readItem 1 = .ok (.invokevirtual 83, 3) := by decide +kernel
theorem dX9_readItem_4 : decode cX9_readItem 4 = .ok (.ifCond .ne 5, 3) := by decide +kernel
theorem dX9_readItem_7 : decode cX9_readItem 7 = .ok (.iconst 0, 1) := by decide +kernel
theorem dX9_readItem_8 : decode cX9_readItem 8 = .ok (.ireturn, 1) := by decide +kernel
theorem dX9_readItem_9 : decode cX9_readItem 9 = .ok (.aload_n 0, 1) := by decide +kernel
theorem dX9_readItem_10 : decode cX9_readItem 10 = .ok (.getfield 31, 3) := by decide +kernel
theorem dX9_readItem_13 : decode cX9_readItem 13 = .ok (.iconst 3, 1) := by decide +kernel
theorem dX9_readItem_14 : decode cX9_readItem 14 = .ok (.if_icmp .ne 7, 3) := by decide +kernel
theorem dX9_readItem_17 : decode cX9_readItem 17 = .ok (.iconst 1, 1) := by decide +kernel
theorem dX9_readItem_18 : decode cX9_readItem 18 = .ok (.goto 4, 3) := by decide +kernel
theorem dX9_readItem_21 : decode cX9_readItem 21 = .ok (.iconst 0, 1) := by decide +kernel
theorem dX9_readItem_22 : decode cX9_readItem 22 = .ok (.istore_n 2, 1) := by decide +kernel
theorem dX9_readItem_23 : decode cX9_readItem 23 = .ok (.iload_n 2, 1) := by decide +kernel
theorem dX9_readItem_24 : decode cX9_readItem 24 = .ok (.ifCond .eq 62, 3) := by decide +kernel
theorem dX9_readItem_27 : decode cX9_readItem 27 = .ok (.aload_n 0, 1) := by decide +kernel
theorem dX9_readItem_28 : decode cX9_readItem 28 = .ok (.aload_n 0, 1) := by decide +kernel
theorem dX9_readItem_29 : decode cX9_readItem 29 = .ok (.getfield 40, 3) := by decide +kernel
theorem dX9_readItem_32 : decode cX9_readItem 32 = .ok (.aload_n 0, 1) := by decide +kernel
theorem dX9_readItem_33 : decode cX9_readItem 33 = .ok (.getfield 43, 3) := by decide +kernel
theorem dX9_readItem_36 : decode cX9_readItem 36 = .ok (.aload_n 1, 1) := by decide +kernel
theorem dX9_readItem_37 : decode cX9_readItem 37 = .ok (.getfield 87, 3) := by decide +kernel
theorem dX9_readItem_40 : decode cX9_readItem 40 = .ok (.invokevirtual 90, 3) := by decide +kernel
theorem dX9_readItem_43 : decode cX9_readItem 43 = .ok (.iconst (-1), 1) := by decide +kernel
theorem dX9_readItem_44 : decode cX9_readItem 44 = .ok (.if_icmp .eq 13, 3) := by decide +kernel
theorem dX9_readItem_47 : decode cX9_readItem 47 = .ok (.aload_n 0, 1) := by decide +kernel
theorem dX9_readItem_48 : decode cX9_readItem 48 = .ok (.iconst 3, 1) := by decide +kernel
theorem dX9_readItem_49 : decode cX9_readItem 49 = .ok (.aload_n 0, 1) := by decide +kernel
theorem dX9_readItem_50 : decode cX9_readItem 50 = .ok (.getfield 40, 3) := by decide +kernel
theorem dX9_readItem_53 : decode cX9_readItem 53 = .ok (.invokevirtual 94, 3) := by decide +kernel
theorem dX9_readItem_56 : decode cX9_readItem 56 = .ok (.ireturn, 1) := by decide +kernel
theorem dX9_readItem_57 : decode cX9_readItem 57 = .ok (.aload_n 0, 1) := by decide +kernel
theorem dX9_readItem_58 : decode cX9_readItem 58 = .ok (.aload_n 1, 1) := by decide +kernel
theorem dX9_readItem_59 : decode cX9_readItem 59 = .ok (.getfield 87, 3) := by decide +kernel
theorem dX9_readItem_62 : decode cX9_readItem 62 = .ok (.aload_n 0, 1) := by decide +kernel
theorem dX9_readItem_63 : decode cX9_readItem 63 = .ok (.getfield 40, 3) := by decide +kernel
theorem dX9_readItem_66 : decode cX9_readItem 66 = .ok (.aload_n 0, 1) := by decide +kernel
theorem dX9_readItem_67 : decode cX9_readItem 67 = .ok (.getfield 43, 3) := by decide +kernel
theorem dX9_readItem_70 : decode cX9_readItem 70 = .ok (.invokevirtual 98, 3) := by decide +kernel
theorem dX9_readItem_73 : decode cX9_readItem 73 = .ok (.aload_n 0, 1) := by decide +kernel
theorem dX9_readItem_74 : decode cX9_readItem 74 = .ok (.invokevirtual 72, 3) := by decide +kernel
theorem dX9_readItem_77 : decode cX9_readItem 77 = .ok (.aload_n 0, 1) := by decide +kernel
theorem dX9_readItem_78 : decode cX9_readItem 78 = .ok (.invokevirtual 83, 3) := by decide +kernel
theorem dX9_readItem_81 : decode cX9_readItem 81 = .ok (.ifCond .ne 15, 3) := by decide +kernel
theorem dX9_readItem_84 : decode cX9_readItem 84 = .ok (.iconst 0, 1) := by decide +kernel
theorem dX9_readItem_85 : decode cX9_readItem 85 = .ok (.ireturn, 1) := by decide +kernel
theorem dX9_readItem_86 : decode cX9_readItem 86 = .ok (.aload_n 0, 1) := by decide +kernel
theorem dX9_readItem_87 : decode cX9_readItem 87 = .ok (.aload_n 1, 1) := by decide +kernel
theorem dX9_readItem_88 : decode cX9_readItem 88 = .ok (.getfield 87, 3) := by decide +kernel
theorem dX9_readItem_91 : decode cX9_readItem 91 = .ok (.iconst 0, 1) := by decide +kernel
theorem dX9_readItem_92 : decode cX9_readItem 92 = .ok (.iconst 0, 1) := by decide +kernel
theorem dX9_readItem_93 : decode cX9_readItem 93 = .ok (.invokevirtual 98, 3) := by decide +kernel
theorem dX9_readItem_96 : decode cX9_readItem 96 = .ok (.aload_n 0, 1) := by decide +kernel
theorem dX9_readItem_97 : decode cX9_readItem 97 = .ok (.aload_n 1, 1) := by decide +kernel
theorem dX9_readItem_98 : decode cX9_readItem 98 = .ok (.iload_n 2, 1) := by decide +kernel
theorem dX9_readItem_99 : decode cX9_readItem 99 = .ok (.invokevirtual 102, 3) := by decide +kernel
theorem dX9_readItem_102 : decode cX9_readItem 102 = .ok (.ireturn, 1) := by decide +kernel
theorem dX9_readWord_0 : decode cX9_readWord 0 = .ok (.aload_n 0, 1) := by decide +kernel
theorem dX9_readWord_1 : decode cX9_readWord 1 = .ok (.getfield 31, 3) := by decide +kernel
theorem dX9_readWord_4 : decode cX9_readWord 4 = .ok (.iconst 1, 1) := by decide +kernel
theorem dX9_readWord_5 : decode cX9_readWord 5 = .ok (.if_icmp .eq 13, 3) := by decide +kernel
theorem dX9_readWord_8 : decode cX9_readWord 8 = .ok (.aload_n 0, 1) := by decide +kernel
theorem dX9_readWord_9 : decode cX9_readWord 9 = .ok (.iconst 1, 1) := by decide +kernel
theorem dX9_readWord_10 : decode cX9_readWord 10 = .ok (.aload_n 0, 1) := by decide +kernel
theorem dX9_readWord_11 : decode cX9_readWord 11 = .ok (.getfield 34, 3) := by decide +kernel
theorem dX9_readWord_14 : decode cX9_readWord 14 = .ok (.invokevirtual 94, 3) := by decide +kernel
theorem dX9_readWord_17 : decode cX9_readWord 17 = .ok (.ireturn, 1) := by decide +kernel
theorem dX9_readWord_18 : decode cX9_readWord 18 = .ok (.aload_n 0, 1) := by decide +kernel
theorem dX9_readWord_19 : decode cX9_readWord 19 = .ok (.aload_n 0, 1) := by decide +kernel
theorem dX9_readWord_20 : decode cX9_readWord 20 = .ok (.getfield 34, 3) := by decide +kernel
theorem dX9_readWord_23 : decode cX9_readWord 23 = .ok (.putfield 40, 3) := by decide +kernel
theorem dX9_readWord_26 : decode cX9_readWord 26 = .ok (.aload_n 0, 1) := by decide +kernel
theorem dX9_readWord_27 : decode cX9_readWord 27 = .ok (.aload_n 0, 1) := by decide +kernel
theorem dX9_readWord_28 : decode cX9_readWord 28 = .ok (.getfield 37, 3) := by decide +kernel
theorem dX9_readWord_31 : decode cX9_readWord 31 = .ok (.putfield 43, 3) := by decide +kernel
theorem dX9_readWord_34 : decode cX9_readWord 34 = .ok (.aload_n 0, 1) := by decide +kernel
theorem dX9_readWord_35 : decode cX9_readWord 35 = .ok (.invokevirtual 72, 3) := by decide +kernel
theorem dX9_readWord_38 : decode cX9_readWord 38 = .ok (.iconst 1, 1) := by decide +kernel
theorem dX9_readWord_39 : decode cX9_readWord 39 = .ok (.ireturn, 1) := by decide +kernel
theorem dX9_readOrder_0 : decode cX9_readOrder 0 = .ok (.aload_n 0, 1) := by decide +kernel
theorem dX9_readOrder_1 : decode cX9_readOrder 1 = .ok (.invokevirtual 106, 3) := by decide +kernel
theorem dX9_readOrder_4 : decode cX9_readOrder 4 = .ok (.istore_n 3, 1) := by decide +kernel
theorem dX9_readOrder_5 : decode cX9_readOrder 5 = .ok (.iload_n 3, 1) := by decide +kernel
theorem dX9_readOrder_6 : decode cX9_readOrder 6 = .ok (.iconst (-1), 1) := by decide +kernel
theorem dX9_readOrder_7 : decode cX9_readOrder 7 = .ok (.if_icmp .ne 13, 3) := by decide +kernel
theorem dX9_readOrder_10 : decode cX9_readOrder 10 = .ok (.aload_n 0, 1) := by decide +kernel
theorem dX9_readOrder_11 : decode cX9_readOrder 11 = .ok (.iconst 2, 1) := by decide +kernel
theorem dX9_readOrder_12 : decode cX9_readOrder 12 = .ok (.aload_n 0, 1) := by decide +kernel
theorem dX9_readOrder_13 : decode cX9_readOrder 13 = .ok (.getfield 40, 3) := by decide +kernel
theorem dX9_readOrder_16 : decode cX9_readOrder 16 = .ok (.invokevirtual 94, 3) := by decide +kernel
theorem dX9_readOrder_19 : decode cX9_readOrder 19 = .ok (.ireturn, 1) := by decide +kernel
theorem dX9_readOrder_20 : decode cX9_readOrder 20 = .ok (.aload_n 1, 1) := by decide +kernel
theorem dX9_readOrder_21 : decode cX9_readOrder 21 = .ok (.getfield 87, 3) := by decide +kernel
theorem dX9_readOrder_24 : decode cX9_readOrder 24 = .ok (.bipush 100, 2) := by decide +kernel
theorem dX9_readOrder_26 : decode cX9_readOrder 26 = .ok (.if_icmp .lt 13, 3) := by decide +kernel
theorem dX9_readOrder_29 : decode cX9_readOrder 29 = .ok (.aload_n 0, 1) := by decide +kernel
theorem dX9_readOrder_30 : decode cX9_readOrder 30 = .ok (.iconst 5, 1) := by decide +kernel
theorem dX9_readOrder_31 : decode cX9_readOrder 31 = .ok (.aload_n 0, 1) := by decide +kernel
theorem dX9_readOrder_32 : decode cX9_readOrder 32 = .ok (.getfield 40, 3) := by decide +kernel
theorem dX9_readOrder_35 : decode cX9_readOrder 35 = .ok (.invokevirtual 94, 3) := by decide +kernel
theorem dX9_readOrder_38 : decode cX9_readOrder 38 = .ok (.ireturn, 1) := by decide +kernel
theorem dX9_readOrder_39 : decode cX9_readOrder 39 = .ok (.iconst 0, 1) := by decide +kernel
theorem dX9_readOrder_40 : decode cX9_readOrder 40 = .ok (.istore 4, 2) := by decide +kernel
theorem dX9_readOrder_42 : decode cX9_readOrder 42 = .ok (.getstatic 110, 3) := by decide +kernel
theorem dX9_readOrder_45 : decode cX9_readOrder 45 = .ok (.iload_n 3, 1) := by decide +kernel
theorem dX9_readOrder_46 : decode cX9_readOrder 46 = .ok (.aaload, 1) := by decide +kernel
theorem dX9_readOrder_47 : decode cX9_readOrder 47 = .ok (.getfield 114, 3) := by decide +kernel
theorem dX9_readOrder_50 : decode cX9_readOrder 50 = .ok (.istore 5, 2) := by decide +kernel
theorem dX9_readOrder_52 : decode cX9_readOrder 52 = .ok (.iload 5, 2) := by decide +kernel
theorem dX9_readOrder_54 : decode cX9_readOrder 54 = .ok (.iconst 3, 1) := by decide +kernel
theorem dX9_readOrder_55 : decode cX9_readOrder 55 = .ok (.if_icmp .ne 23, 3) := by decide +kernel
theorem dX9_readOrder_58 : decode cX9_readOrder 58 = .ok (.aload_n 0, 1) := by decide +kernel
theorem dX9_readOrder_59 : decode cX9_readOrder 59 = .ok (.invokevirtual 83, 3) := by decide +kernel
theorem dX9_readOrder_62 : decode cX9_readOrder 62 = .ok (.ifCond .ne 5, 3) := by decide +kernel
theorem dX9_readOrder_65 : decode cX9_readOrder 65 = .ok (.iconst 0, 1) := by decide +kernel
theorem dX9_readOrder_66 : decode cX9_readOrder 66 = .ok (.ireturn, 1) := by decide +kernel
theorem dX9_readOrder_67 : decode cX9_readOrder 67 = .ok (.aload_n 0, 1) := by decide +kernel
theorem dX9_readOrder_68 : decode cX9_readOrder 68 = .ok (.aload_n 1, 1) := by decide +kernel
theorem dX9_readOrder_69 : decode cX9_readOrder 69 = .ok (.getfield 87, 3) := by decide +kernel
theorem dX9_readOrder_72 : decode cX9_readOrder 72 = .ok (.invokevirtual 119, 3) := by decide +kernel
theorem dX9_readOrder_75 : decode cX9_readOrder 75 = .ok (.goto 59, 3) := by decide +kernel
theorem dX9_readOrder_78 : decode cX9_readOrder 78 = .ok (.iload 5, 2) := by decide +kernel
theorem dX9_readOrder_80 : decode cX9_readOrder 80 = .ok (.ifCond .eq 54, 3) := by decide +kernel
theorem dX9_readOrder_83 : decode cX9_readOrder 83 = .ok (.aload_n 0, 1) := by decide +kernel
theorem dX9_readOrder_84 : decode cX9_readOrder 84 = .ok (.getfield 31, 3) := by decide +kernel
theorem dX9_readOrder_87 : decode cX9_readOrder 87 = .ok (.iconst 2, 1) := by decide +kernel
theorem dX9_readOrder_88 : decode cX9_readOrder 88 = .ok (.if_icmp .eq 13, 3) := by decide +kernel
theorem dX9_readOrder_91 : decode cX9_readOrder 91 = .ok (.aload_n 0, 1) := by decide +kernel
theorem dX9_readOrder_92 : decode cX9_readOrder 92 = .ok (.iconst 1, 1) := by decide +kernel
theorem dX9_readOrder_93 : decode cX9_readOrder 93 = .ok (.aload_n 0, 1) := by decide +kernel
theorem dX9_readOrder_94 : decode cX9_readOrder 94 = .ok (.getfield 34, 3) := by decide +kernel
theorem dX9_readOrder_97 : decode cX9_readOrder 97 = .ok (.invokevirtual 94, 3) := by decide +kernel
theorem dX9_readOrder_100 : decode cX9_readOrder 100 = .ok (.ireturn, 1) := by decide +kernel
theorem dX9_readOrder_101 : decode cX9_readOrder 101 = .ok (.aload_n 0, 1) := by decide +kernel
theorem dX9_readOrder_102 : decode cX9_readOrder 102 = .ok (.invokevirtual 123, 3) := by decide +kernel
theorem dX9_readOrder_105 : decode cX9_readOrder 105 = .ok (.istore 4, 2) := by decide +kernel
theorem dX9_readOrder_107 : decode cX9_readOrder 107 = .ok (.iload 5, 2) := by decide +kernel
theorem dX9_readOrder_109 : decode cX9_readOrder 109 = .ok (.iconst 2, 1) := by decide +kernel
theorem dX9_readOrder_110 : decode cX9_readOrder 110 = .ok (.if_icmp .ne 20, 3) := by decide +kernel
theorem dX9_readOrder_113 : decode cX9_readOrder 113 = .ok (.iload 4, 2) := by decide +kernel
theorem dX9_readOrder_115 : decode cX9_readOrder 115 = .ok (.bipush 8, 2) := by decide +kernel
theorem dX9_readOrder_117 : decode cX9_readOrder 117 = .ok (.if_icmp .lt 13, 3) := by decide +kernel
theorem dX9_readOrder_120 : decode cX9_readOrder 120 = .ok (.aload_n 0, 1) := by decide +kernel
theorem dX9_readOrder_121 : decode cX9_readOrder 121 = .ok (.iconst 4, 1) := by decide +kernel
theorem dX9_readOrder_122 : decode cX9_readOrder 122 = .ok (.aload_n 0, 1) := by decide +kernel
theorem dX9_readOrder_123 : decode cX9_readOrder 123 = .ok (.getfield 34, 3) := by decide +kernel
theorem dX9_readOrder_126 : decode cX9_readOrder 126 = .ok (.invokevirtual 94, 3) := by decide +kernel
theorem dX9_readOrder_129 : decode cX9_readOrder 129 = .ok (.ireturn, 1) := by decide +kernel
theorem dX9_readOrder_130 : decode cX9_readOrder 130 = .ok (.aload_n 0, 1) := by decide +kernel
theorem dX9_readOrder_131 : decode cX9_readOrder 131 = .ok (.invokevirtual 72, 3) := by decide +kernel
theorem dX9_readOrder_134 : decode cX9_readOrder 134 = .ok (.aload_n 0, 1) := by decide +kernel
theorem dX9_readOrder_135 : decode cX9_readOrder 135 = .ok (.getfield 31, 3) := by decide +kernel
theorem dX9_readOrder_138 : decode cX9_readOrder 138 = .ok (.iconst 4, 1) := by decide +kernel
theorem dX9_readOrder_139 : decode cX9_readOrder 139 = .ok (.if_icmp .eq 13, 3) := by decide +kernel
theorem dX9_readOrder_142 : decode cX9_readOrder 142 = .ok (.aload_n 0, 1) := by decide +kernel
theorem dX9_readOrder_143 : decode cX9_readOrder 143 = .ok (.iconst 1, 1) := by decide +kernel
theorem dX9_readOrder_144 : decode cX9_readOrder 144 = .ok (.aload_n 0, 1) := by decide +kernel
theorem dX9_readOrder_145 : decode cX9_readOrder 145 = .ok (.getfield 34, 3) := by decide +kernel
theorem dX9_readOrder_148 : decode cX9_readOrder 148 = .ok (.invokevirtual 94, 3) := by decide +kernel
theorem dX9_readOrder_151 : decode cX9_readOrder 151 = .ok (.ireturn, 1) := by decide +kernel
theorem dX9_readOrder_152 : decode cX9_readOrder 152 = .ok (.aload_n 0, 1) := by decide +kernel
theorem dX9_readOrder_153 : decode cX9_readOrder 153 = .ok (.invokevirtual 72, 3) := by decide +kernel
theorem dX9_readOrder_156 : decode cX9_readOrder 156 = .ok (.aload_n 1, 1) := by decide +kernel
theorem dX9_readOrder_157 : decode cX9_readOrder 157 = .ok (.iload_n 3, 1) := by decide +kernel
theorem dX9_readOrder_158 : decode cX9_readOrder 158 = .ok (.iload 4, 2) := by decide +kernel
theorem dX9_readOrder_160 : decode cX9_readOrder 160 = .ok (.iload_n 2, 1) := by decide +kernel
theorem dX9_readOrder_161 : decode cX9_readOrder 161 = .ok (.invokevirtual 126, 3) := by decide +kernel
theorem dX9_readOrder_164 : decode cX9_readOrder 164 = .ok (.iconst 1, 1) := by decide +kernel
theorem dX9_readOrder_165 : decode cX9_readOrder 165 = .ok (.ireturn, 1) := by decide +kernel
theorem dX9_resolveGoals_0 : decode cX9_resolveGoals 0 = .ok (.iconst 0, 1) := by decide +kernel
theorem dX9_resolveGoals_1 : decode cX9_resolveGoals 1 = .ok (.istore_n 2, 1) := by decide +kernel
theorem dX9_resolveGoals_2 : decode cX9_resolveGoals 2 = .ok (.iload_n 2, 1) := by decide +kernel
theorem dX9_resolveGoals_3 : decode cX9_resolveGoals 3 = .ok (.aload_n 1, 1) := by decide +kernel
theorem dX9_resolveGoals_4 : decode cX9_resolveGoals 4 = .ok (.getfield 87, 3) := by decide +kernel
theorem dX9_resolveGoals_7 : decode cX9_resolveGoals 7 = .ok (.if_icmp .ge 72, 3) := by decide +kernel
theorem dX9_resolveGoals_10 : decode cX9_resolveGoals 10 = .ok (.iload_n 2, 1) := by decide +kernel
theorem dX9_resolveGoals_11 : decode cX9_resolveGoals 11 = .ok (.bipush 100, 2) := by decide +kernel
theorem dX9_resolveGoals_13 : decode cX9_resolveGoals 13 = .ok (.if_icmp .ge 66, 3) := by decide +kernel
theorem dX9_resolveGoals_16 : decode cX9_resolveGoals 16 = .ok (.aload_n 1, 1) := by decide +kernel
theorem dX9_resolveGoals_17 : decode cX9_resolveGoals 17 = .ok (.iload_n 2, 1) := by decide +kernel
theorem dX9_resolveGoals_18 : decode cX9_resolveGoals 18 = .ok (.invokevirtual 130, 3) := by decide +kernel
theorem dX9_resolveGoals_21 : decode cX9_resolveGoals 21 = .ok (.getfield 114, 3) := by decide +kernel
theorem dX9_resolveGoals_24 : decode cX9_resolveGoals 24 = .ok (.iconst 3, 1) := by decide +kernel
theorem dX9_resolveGoals_25 : decode cX9_resolveGoals 25 = .ok (.if_icmp .ne 48, 3) := by decide +kernel
theorem dX9_resolveGoals_28 : decode cX9_resolveGoals 28 = .ok (.aload_n 0, 1) := by decide +kernel
theorem dX9_resolveGoals_29 : decode cX9_resolveGoals 29 = .ok (.aload_n 0, 1) := by decide +kernel
theorem dX9_resolveGoals_30 : decode cX9_resolveGoals 30 = .ok (.getfield 21, 3) := by decide +kernel
theorem dX9_resolveGoals_33 : decode cX9_resolveGoals 33 = .ok (.iload_n 2, 1) := by decide +kernel
theorem dX9_resolveGoals_34 : decode cX9_resolveGoals 34 = .ok (.iaload, 1) := by decide +kernel
theorem dX9_resolveGoals_35 : decode cX9_resolveGoals 35 = .ok (.aload_n 0, 1) := by decide +kernel
theorem dX9_resolveGoals_36 : decode cX9_resolveGoals 36 = .ok (.getfield 24, 3) := by decide +kernel
theorem dX9_resolveGoals_39 : decode cX9_resolveGoals 39 = .ok (.iload_n 2, 1) := by decide +kernel
theorem dX9_resolveGoals_40 : decode cX9_resolveGoals 40 = .ok (.iaload, 1) := by decide +kernel
theorem dX9_resolveGoals_41 : decode cX9_resolveGoals 41 = .ok (.aload_n 1, 1) := by decide +kernel
theorem dX9_resolveGoals_42 : decode cX9_resolveGoals 42 = .ok (.getfield 87, 3) := by decide +kernel
theorem dX9_resolveGoals_45 : decode cX9_resolveGoals 45 = .ok (.invokevirtual 90, 3) := by decide +kernel
theorem dX9_resolveGoals_48 : decode cX9_resolveGoals 48 = .ok (.istore_n 3, 1) := by decide +kernel
theorem dX9_resolveGoals_49 : decode cX9_resolveGoals 49 = .ok (.iload_n 3, 1) := by decide +kernel
theorem dX9_resolveGoals_50 : decode cX9_resolveGoals 50 = .ok (.iconst (-1), 1) := by decide +kernel
theorem dX9_resolveGoals_51 : decode cX9_resolveGoals 51 = .ok (.if_icmp .ne 16, 3) := by decide +kernel
theorem dX9_resolveGoals_54 : decode cX9_resolveGoals 54 = .ok (.aload_n 0, 1) := by decide +kernel
theorem dX9_resolveGoals_55 : decode cX9_resolveGoals 55 = .ok (.iconst 2, 1) := by decide +kernel
theorem dX9_resolveGoals_56 : decode cX9_resolveGoals 56 = .ok (.aload_n 0, 1) := by decide +kernel
theorem dX9_resolveGoals_57 : decode cX9_resolveGoals 57 = .ok (.getfield 21, 3) := by decide +kernel
theorem dX9_resolveGoals_60 : decode cX9_resolveGoals 60 = .ok (.iload_n 2, 1) := by decide +kernel
theorem dX9_resolveGoals_61 : decode cX9_resolveGoals 61 = .ok (.iaload, 1) := by decide +kernel
theorem dX9_resolveGoals_62 : decode cX9_resolveGoals 62 = .ok (.invokevirtual 94, 3) := by decide +kernel
theorem dX9_resolveGoals_65 : decode cX9_resolveGoals 65 = .ok (.pop, 1) := by decide +kernel
theorem dX9_resolveGoals_66 : decode cX9_resolveGoals 66 = .ok (.return_, 1) := by decide +kernel
theorem dX9_resolveGoals_67 : decode cX9_resolveGoals 67 = .ok (.aload_n 1, 1) := by decide +kernel
theorem dX9_resolveGoals_68 : decode cX9_resolveGoals 68 = .ok (.iload_n 2, 1) := by decide +kernel
theorem dX9_resolveGoals_69 : decode cX9_resolveGoals 69 = .ok (.iload_n 3, 1) := by decide +kernel
theorem dX9_resolveGoals_70 : decode cX9_resolveGoals 70 = .ok (.invokevirtual 134, 3) := by decide +kernel
theorem dX9_resolveGoals_73 : decode cX9_resolveGoals 73 = .ok (.iinc 2 1, 3) := by decide +kernel
theorem dX9_resolveGoals_76 : decode cX9_resolveGoals 76 = .ok (.goto (-74), 3) := by decide +kernel
theorem dX9_resolveGoals_79 : decode cX9_resolveGoals 79 = .ok (.return_, 1) := by decide +kernel
theorem dX9_keepMark_0 : decode cX9_keepMark 0 = .ok (.iload_n 1, 1) := by decide +kernel
theorem dX9_keepMark_1 : decode cX9_keepMark 1 = .ok (.ifCond .lt 23, 3) := by decide +kernel
theorem dX9_keepMark_4 : decode cX9_keepMark 4 = .ok (.iload_n 1, 1) := by decide +kernel
theorem dX9_keepMark_5 : decode cX9_keepMark 5 = .ok (.bipush 100, 2) := by decide +kernel
theorem dX9_keepMark_7 : decode cX9_keepMark 7 = .ok (.if_icmp .ge 17, 3) := by decide +kernel
theorem dX9_keepMark_10 : decode cX9_keepMark 10 = .ok (.aload_n 0, 1) := by decide +kernel
theorem dX9_keepMark_11 : decode cX9_keepMark 11 = .ok (.getfield 15, 3) := by decide +kernel
theorem dX9_keepMark_14 : decode cX9_keepMark 14 = .ok (.iload_n 1, 1) := by decide +kernel
theorem dX9_keepMark_15 : decode cX9_keepMark 15 = .ok (.iload_n 2, 1) := by decide +kernel
theorem dX9_keepMark_16 : decode cX9_keepMark 16 = .ok (.iastore, 1) := by decide +kernel
theorem dX9_keepMark_17 : decode cX9_keepMark 17 = .ok (.aload_n 0, 1) := by decide +kernel
theorem dX9_keepMark_18 : decode cX9_keepMark 18 = .ok (.getfield 18, 3) := by decide +kernel
theorem dX9_keepMark_21 : decode cX9_keepMark 21 = .ok (.iload_n 1, 1) := by decide +kernel
theorem dX9_keepMark_22 : decode cX9_keepMark 22 = .ok (.iload_n 3, 1) := by decide +kernel
theorem dX9_keepMark_23 : decode cX9_keepMark 23 = .ok (.iastore, 1) := by decide +kernel
theorem dX9_keepMark_24 : decode cX9_keepMark 24 = .ok (.return_, 1) := by decide +kernel
theorem dX9_keepGoal_0 : decode cX9_keepGoal 0 = .ok (.iload_n 1, 1) := by decide +kernel
theorem dX9_keepGoal_1 : decode cX9_keepGoal 1 = .ok (.ifCond .lt 29, 3) := by decide +kernel
theorem dX9_keepGoal_4 : decode cX9_keepGoal 4 = .ok (.iload_n 1, 1) := by decide +kernel
theorem dX9_keepGoal_5 : decode cX9_keepGoal 5 = .ok (.bipush 100, 2) := by decide +kernel
theorem dX9_keepGoal_7 : decode cX9_keepGoal 7 = .ok (.if_icmp .ge 23, 3) := by decide +kernel
theorem dX9_keepGoal_10 : decode cX9_keepGoal 10 = .ok (.aload_n 0, 1) := by decide +kernel
theorem dX9_keepGoal_11 : decode cX9_keepGoal 11 = .ok (.getfield 21, 3) := by decide +kernel
theorem dX9_keepGoal_14 : decode cX9_keepGoal 14 = .ok (.iload_n 1, 1) := by decide +kernel
theorem dX9_keepGoal_15 : decode cX9_keepGoal 15 = .ok (.aload_n 0, 1) := by decide +kernel
theorem dX9_keepGoal_16 : decode cX9_keepGoal 16 = .ok (.getfield 40, 3) := by decide +kernel
theorem dX9_keepGoal_19 : decode cX9_keepGoal 19 = .ok (.iastore, 1) := by decide +kernel
theorem dX9_keepGoal_20 : decode cX9_keepGoal 20 = .ok (.aload_n 0, 1) := by decide +kernel
theorem dX9_keepGoal_21 : decode cX9_keepGoal 21 = .ok (.getfield 24, 3) := by decide +kernel
theorem dX9_keepGoal_24 : decode cX9_keepGoal 24 = .ok (.iload_n 1, 1) := by decide +kernel
theorem dX9_keepGoal_25 : decode cX9_keepGoal 25 = .ok (.aload_n 0, 1) := by decide +kernel
theorem dX9_keepGoal_26 : decode cX9_keepGoal 26 = .ok (.getfield 43, 3) := by decide +kernel
theorem dX9_keepGoal_29 : decode cX9_keepGoal 29 = .ok (.iastore, 1) := by decide +kernel
theorem dX9_keepGoal_30 : decode cX9_keepGoal 30 = .ok (.return_, 1) := by decide +kernel
theorem dX9_placeOfMark_0 : decode cX9_placeOfMark 0 = .ok (.iconst 0, 1) := by decide +kernel
theorem dX9_placeOfMark_1 : decode cX9_placeOfMark 1 = .ok (.istore 4, 2) := by decide +kernel
theorem dX9_placeOfMark_3 : decode cX9_placeOfMark 3 = .ok (.iload 4, 2) := by decide +kernel
theorem dX9_placeOfMark_5 : decode cX9_placeOfMark 5 = .ok (.iload_n 3, 1) := by decide +kernel
theorem dX9_placeOfMark_6 : decode cX9_placeOfMark 6 = .ok (.if_icmp .ge 42, 3) := by decide +kernel
theorem dX9_placeOfMark_9 : decode cX9_placeOfMark 9 = .ok (.iload 4, 2) := by decide +kernel
theorem dX9_placeOfMark_11 : decode cX9_placeOfMark 11 = .ok (.bipush 100, 2) := by decide +kernel
theorem dX9_placeOfMark_13 : decode cX9_placeOfMark 13 = .ok (.if_icmp .ge 35, 3) := by decide +kernel
theorem dX9_placeOfMark_16 : decode cX9_placeOfMark 16 = .ok (.aload_n 0, 1) := by decide +kernel
theorem dX9_placeOfMark_17 : decode cX9_placeOfMark 17 = .ok (.iload_n 1, 1) := by decide +kernel
theorem dX9_placeOfMark_18 : decode cX9_placeOfMark 18 = .ok (.iload_n 2, 1) := by decide +kernel
theorem dX9_placeOfMark_19 : decode cX9_placeOfMark 19 = .ok (.aload_n 0, 1) := by decide +kernel
theorem dX9_placeOfMark_20 : decode cX9_placeOfMark 20 = .ok (.getfield 15, 3) := by decide +kernel
theorem dX9_placeOfMark_23 : decode cX9_placeOfMark 23 = .ok (.iload 4, 2) := by decide +kernel
theorem dX9_placeOfMark_25 : decode cX9_placeOfMark 25 = .ok (.iaload, 1) := by decide +kernel
theorem dX9_placeOfMark_26 : decode cX9_placeOfMark 26 = .ok (.aload_n 0, 1) := by decide +kernel
theorem dX9_placeOfMark_27 : decode cX9_placeOfMark 27 = .ok (.getfield 18, 3) := by decide +kernel
theorem dX9_placeOfMark_30 : decode cX9_placeOfMark 30 = .ok (.iload 4, 2) := by decide +kernel
theorem dX9_placeOfMark_32 : decode cX9_placeOfMark 32 = .ok (.iaload, 1) := by decide +kernel
theorem dX9_placeOfMark_33 : decode cX9_placeOfMark 33 = .ok (.invokevirtual 138, 3) := by decide +kernel
theorem dX9_placeOfMark_36 : decode cX9_placeOfMark 36 = .ok (.ifCond .eq 6, 3) := by decide +kernel
theorem dX9_placeOfMark_39 : decode cX9_placeOfMark 39 = .ok (.iload 4, 2) := by decide +kernel
theorem dX9_placeOfMark_41 : decode cX9_placeOfMark 41 = .ok (.ireturn, 1) := by decide +kernel
theorem dX9_placeOfMark_42 : decode cX9_placeOfMark 42 = .ok (.iinc 4 1, 3) := by decide +kernel
theorem dX9_placeOfMark_45 : decode cX9_placeOfMark 45 = .ok (.goto (-42), 3) := by decide +kernel
theorem dX9_placeOfMark_48 : decode cX9_placeOfMark 48 = .ok (.iconst (-1), 1) := by decide +kernel
theorem dX9_placeOfMark_49 : decode cX9_placeOfMark 49 = .ok (.ireturn, 1) := by decide +kernel
theorem dX9_sameWords_0 : decode cX9_sameWords 0 = .ok (.iload_n 2, 1) := by decide +kernel
theorem dX9_sameWords_1 : decode cX9_sameWords 1 = .ok (.iload_n 1, 1) := by decide +kernel
theorem dX9_sameWords_2 : decode cX9_sameWords 2 = .ok (.isub, 1) := by decide +kernel
theorem dX9_sameWords_3 : decode cX9_sameWords 3 = .ok (.iload 4, 2) := by decide +kernel
theorem dX9_sameWords_5 : decode cX9_sameWords 5 = .ok (.iload_n 3, 1) := by decide +kernel
theorem dX9_sameWords_6 : decode cX9_sameWords 6 = .ok (.isub, 1) := by decide +kernel
theorem dX9_sameWords_7 : decode cX9_sameWords 7 = .ok (.if_icmp .eq 5, 3) := by decide +kernel
theorem dX9_sameWords_10 : decode cX9_sameWords 10 = .ok (.iconst 0, 1) := by decide +kernel
theorem dX9_sameWords_11 : decode cX9_sameWords 11 = .ok (.ireturn, 1) := by decide +kernel
theorem dX9_sameWords_12 : decode cX9_sameWords 12 = .ok (.iconst 0, 1) := by decide +kernel
theorem dX9_sameWords_13 : decode cX9_sameWords 13 = .ok (.istore 5, 2) := by decide +kernel
theorem dX9_sameWords_15 : decode cX9_sameWords 15 = .ok (.iload 5, 2) := by decide +kernel
theorem dX9_sameWords_17 : decode cX9_sameWords 17 = .ok (.iload_n 2, 1) := by decide +kernel
theorem dX9_sameWords_18 : decode cX9_sameWords 18 = .ok (.iload_n 1, 1) := by decide +kernel
theorem dX9_sameWords_19 : decode cX9_sameWords 19 = .ok (.isub, 1) := by decide +kernel
theorem dX9_sameWords_20 : decode cX9_sameWords 20 = .ok (.if_icmp .ge 30, 3) := by decide +kernel
theorem dX9_sameWords_23 : decode cX9_sameWords 23 = .ok (.aload_n 0, 1) := by decide +kernel
theorem dX9_sameWords_24 : decode cX9_sameWords 24 = .ok (.iload_n 1, 1) := by decide +kernel
theorem dX9_sameWords_25 : decode cX9_sameWords 25 = .ok (.iload 5, 2) := by decide +kernel
theorem dX9_sameWords_27 : decode cX9_sameWords 27 = .ok (.iadd, 1) := by decide +kernel
theorem dX9_sameWords_28 : decode cX9_sameWords 28 = .ok (.invokevirtual 142, 3) := by decide +kernel
theorem dX9_sameWords_31 : decode cX9_sameWords 31 = .ok (.aload_n 0, 1) := by decide +kernel
theorem dX9_sameWords_32 : decode cX9_sameWords 32 = .ok (.iload_n 3, 1) := by decide +kernel
theorem dX9_sameWords_33 : decode cX9_sameWords 33 = .ok (.iload 5, 2) := by decide +kernel
theorem dX9_sameWords_35 : decode cX9_sameWords 35 = .ok (.iadd, 1) := by decide +kernel
theorem dX9_sameWords_36 : decode cX9_sameWords 36 = .ok (.invokevirtual 142, 3) := by decide +kernel
theorem dX9_sameWords_39 : decode cX9_sameWords 39 = .ok (.if_icmp .eq 5, 3) := by decide +kernel
theorem dX9_sameWords_42 : decode cX9_sameWords 42 = .ok (.iconst 0, 1) := by decide +kernel
theorem dX9_sameWords_43 : decode cX9_sameWords 43 = .ok (.ireturn, 1) := by decide +kernel
theorem dX9_sameWords_44 : decode cX9_sameWords 44 = .ok (.iinc 5 1, 3) := by decide +kernel
theorem dX9_sameWords_47 : decode cX9_sameWords 47 = .ok (.goto (-32), 3) := by decide +kernel
theorem dX9_sameWords_50 : decode cX9_sameWords 50 = .ok (.iconst 1, 1) := by decide +kernel
theorem dX9_sameWords_51 : decode cX9_sameWords 51 = .ok (.ireturn, 1) := by decide +kernel
theorem dX9_kindOfWord_0 : decode cX9_kindOfWord 0 = .ok (.iconst 0, 1) := by decide +kernel
theorem dX9_kindOfWord_1 : decode cX9_kindOfWord 1 = .ok (.istore_n 1, 1) := by decide +kernel
theorem dX9_kindOfWord_2 : decode cX9_kindOfWord 2 = .ok (.iload_n 1, 1) := by decide +kernel
theorem dX9_kindOfWord_3 : decode cX9_kindOfWord 3 = .ok (.getstatic 110, 3) := by decide +kernel
theorem dX9_kindOfWord_6 : decode cX9_kindOfWord 6 = .ok (.arraylength, 1) := by decide +kernel
theorem dX9_kindOfWord_7 : decode cX9_kindOfWord 7 = .ok (.if_icmp .ge 26, 3) := by decide +kernel
