theorem dX14_costOf_19 : decode cX14_costOf 19 = .ok (.aload_n 0, 1) := by decide +kernel
theorem dX14_costOf_20 : decode cX14_costOf 20 = .ok (.invokevirtual 259, 3) := by decide +kernel
theorem dX14_costOf_23 : decode cX14_costOf 23 = .ok (.istore 4, 2) := by decide +kernel
theorem dX14_costOf_25 : decode cX14_costOf 25 = .ok (.iconst 0, 1) := by decide +kernel
theorem dX14_costOf_26 : decode cX14_costOf 26 = .ok (.istore 4, 2) := by decide +kernel
theorem dX14_costOf_28 : decode cX14_costOf 28 = .ok (.iload 4, 2) := by decide +kernel
theorem dX14_costOf_30 : decode cX14_costOf 30 = .ok (.aload_n 0, 1) := by decide +kernel
theorem dX14_costOf_31 : decode cX14_costOf 31 = .ok (.getfield 271, 3) := by decide +kernel
theorem dX14_costOf_34 : decode cX14_costOf 34 = .ok (.if_icmp .ge 177, 3) := by decide +kernel
theorem dX14_costOf_37 : decode cX14_costOf 37 = .ok (.aload_n 0, 1) := by decide +kernel
theorem dX14_costOf_38 : decode cX14_costOf 38 = .ok (.getfield 16, 3) := by decide +kernel
theorem dX14_costOf_41 : decode cX14_costOf 41 = .ok (.getfield 201, 3) := by decide +kernel
theorem dX14_costOf_44 : decode cX14_costOf 44 = .ok (.aload_n 0, 1) := by decide +kernel
theorem dX14_costOf_45 : decode cX14_costOf 45 = .ok (.getfield 77, 3) := by decide +kernel
theorem dX14_costOf_48 : decode cX14_costOf 48 = .ok (.iload 4, 2) := by decide +kernel
theorem dX14_costOf_50 : decode cX14_costOf 50 = .ok (.iaload, 1) := by decide +kernel
theorem dX14_costOf_51 : decode cX14_costOf 51 = .ok (.iaload, 1) := by decide +kernel
theorem dX14_costOf_52 : decode cX14_costOf 52 = .ok (.istore 5, 2) := by decide +kernel
theorem dX14_costOf_54 : decode cX14_costOf 54 = .ok (.iload_n 2, 1) := by decide +kernel
theorem dX14_costOf_55 : decode cX14_costOf 55 = .ok (.iload 5, 2) := by decide +kernel
theorem dX14_costOf_57 : decode cX14_costOf 57 = .ok (.invokestatic 304, 3) := by decide +kernel
theorem dX14_costOf_60 : decode cX14_costOf 60 = .ok (.iload_n 1, 1) := by decide +kernel
theorem dX14_costOf_61 : decode cX14_costOf 61 = .ok (.ifCond .ne 8, 3) := by decide +kernel
theorem dX14_costOf_64 : decode cX14_costOf 64 = .ok (.bipush 6, 2) := by decide +kernel
theorem dX14_costOf_66 : decode cX14_costOf 66 = .ok (.goto 28, 3) := by decide +kernel
theorem dX14_costOf_69 : decode cX14_costOf 69 = .ok (.iload_n 1, 1) := by decide +kernel
theorem dX14_costOf_70 : decode cX14_costOf 70 = .ok (.iconst 2, 1) := by decide +kernel
theorem dX14_costOf_71 : decode cX14_costOf 71 = .ok (.if_icmp .ne 22, 3) := by decide +kernel
theorem dX14_costOf_74 : decode cX14_costOf 74 = .ok (.aload_n 0, 1) := by decide +kernel
theorem dX14_costOf_75 : decode cX14_costOf 75 = .ok (.getfield 74, 3) := by decide +kernel
theorem dX14_costOf_78 : decode cX14_costOf 78 = .ok (.aload_n 0, 1) := by decide +kernel
theorem dX14_costOf_79 : decode cX14_costOf 79 = .ok (.getfield 77, 3) := by decide +kernel
theorem dX14_costOf_82 : decode cX14_costOf 82 = .ok (.iload 4, 2) := by decide +kernel
theorem dX14_costOf_84 : decode cX14_costOf 84 = .ok (.iaload, 1) := by decide +kernel
theorem dX14_costOf_85 : decode cX14_costOf 85 = .ok (.baload, 1) := by decide +kernel
theorem dX14_costOf_86 : decode cX14_costOf 86 = .ok (.ifCond .eq 7, 3) := by decide +kernel
theorem dX14_costOf_89 : decode cX14_costOf 89 = .ok (.iconst 0, 1) := by decide +kernel
theorem dX14_costOf_90 : decode cX14_costOf 90 = .ok (.goto 4, 3) := by decide +kernel
theorem dX14_costOf_93 : decode cX14_costOf 93 = .ok (.iconst 4, 1) := by decide +kernel
theorem dX14_costOf_94 : decode cX14_costOf 94 = .ok (.iadd, 1) := by decide +kernel
theorem dX14_costOf_95 : decode cX14_costOf 95 = .ok (.iadd, 1) := by decide +kernel
theorem dX14_costOf_96 : decode cX14_costOf 96 = .ok (.istore_n 2, 1) := by decide +kernel
theorem dX14_costOf_97 : decode cX14_costOf 97 = .ok (.iload_n 1, 1) := by decide +kernel
theorem dX14_costOf_98 : decode cX14_costOf 98 = .ok (.iconst 3, 1) := by decide +kernel
theorem dX14_costOf_99 : decode cX14_costOf 99 = .ok (.if_icmp .eq 6, 3) := by decide +kernel
theorem dX14_costOf_102 : decode cX14_costOf 102 = .ok (.goto 103, 3) := by decide +kernel
theorem dX14_costOf_105 : decode cX14_costOf 105 = .ok (.getstatic 265, 3) := by decide +kernel
theorem dX14_costOf_108 : decode cX14_costOf 108 = .ok (.iload 5, 2) := by decide +kernel
theorem dX14_costOf_110 : decode cX14_costOf 110 = .ok (.iaload, 1) := by decide +kernel
theorem dX14_costOf_111 : decode cX14_costOf 111 = .ok (.ifCond .le 7, 3) := by decide +kernel
theorem dX14_costOf_114 : decode cX14_costOf 114 = .ok (.iconst 1, 1) := by decide +kernel
theorem dX14_costOf_115 : decode cX14_costOf 115 = .ok (.goto 4, 3) := by decide +kernel
theorem dX14_costOf_118 : decode cX14_costOf 118 = .ok (.iconst 0, 1) := by decide +kernel
theorem dX14_costOf_119 : decode cX14_costOf 119 = .ok (.istore 6, 2) := by decide +kernel
theorem dX14_costOf_121 : decode cX14_costOf 121 = .ok (.getstatic 268, 3) := by decide +kernel
theorem dX14_costOf_124 : decode cX14_costOf 124 = .ok (.iload 5, 2) := by decide +kernel
theorem dX14_costOf_126 : decode cX14_costOf 126 = .ok (.iaload, 1) := by decide +kernel
theorem dX14_costOf_127 : decode cX14_costOf 127 = .ok (.ifCond .le 7, 3) := by decide +kernel
theorem dX14_costOf_130 : decode cX14_costOf 130 = .ok (.iconst 1, 1) := by decide +kernel
theorem dX14_costOf_131 : decode cX14_costOf 131 = .ok (.goto 4, 3) := by decide +kernel
theorem dX14_costOf_134 : decode cX14_costOf 134 = .ok (.iconst 0, 1) := by decide +kernel
theorem dX14_costOf_135 : decode cX14_costOf 135 = .ok (.istore 7, 2) := by decide +kernel
theorem dX14_costOf_137 : decode cX14_costOf 137 = .ok (.iload_n 2, 1) := by decide +kernel
theorem dX14_costOf_138 : decode cX14_costOf 138 = .ok (.iload_n 3, 1) := by decide +kernel
theorem dX14_costOf_139 : decode cX14_costOf 139 = .ok (.ifCond .eq 12, 3) := by decide +kernel
theorem dX14_costOf_142 : decode cX14_costOf 142 = .ok (.iload 6, 2) := by decide +kernel
theorem dX14_costOf_144 : decode cX14_costOf 144 = .ok (.ifCond .eq 7, 3) := by decide +kernel
theorem dX14_costOf_147 : decode cX14_costOf 147 = .ok (.iconst (-1), 1) := by decide +kernel
theorem dX14_costOf_148 : decode cX14_costOf 148 = .ok (.goto 4, 3) := by decide +kernel
theorem dX14_costOf_151 : decode cX14_costOf 151 = .ok (.iconst 0, 1) := by decide +kernel
theorem dX14_costOf_152 : decode cX14_costOf 152 = .ok (.iload_n 3, 1) := by decide +kernel
theorem dX14_costOf_153 : decode cX14_costOf 153 = .ok (.ifCond .eq 17, 3) := by decide +kernel
theorem dX14_costOf_156 : decode cX14_costOf 156 = .ok (.iload 6, 2) := by decide +kernel
theorem dX14_costOf_158 : decode cX14_costOf 158 = .ok (.ifCond .ne 12, 3) := by decide +kernel
theorem dX14_costOf_161 : decode cX14_costOf 161 = .ok (.iload 7, 2) := by decide +kernel
theorem dX14_costOf_163 : decode cX14_costOf 163 = .ok (.ifCond .eq 7, 3) := by decide +kernel
theorem dX14_costOf_166 : decode cX14_costOf 166 = .ok (.iconst 1, 1) := by decide +kernel
theorem dX14_costOf_167 : decode cX14_costOf 167 = .ok (.goto 4, 3) := by decide +kernel
theorem dX14_costOf_170 : decode cX14_costOf 170 = .ok (.iconst 0, 1) := by decide +kernel
theorem dX14_costOf_171 : decode cX14_costOf 171 = .ok (.iadd, 1) := by decide +kernel
theorem dX14_costOf_172 : decode cX14_costOf 172 = .ok (.iload 7, 2) := by decide +kernel
theorem dX14_costOf_174 : decode cX14_costOf 174 = .ok (.ifCond .eq 7, 3) := by decide +kernel
theorem dX14_costOf_177 : decode cX14_costOf 177 = .ok (.iconst (-1), 1) := by decide +kernel
theorem dX14_costOf_178 : decode cX14_costOf 178 = .ok (.goto 4, 3) := by decide +kernel
theorem dX14_costOf_181 : decode cX14_costOf 181 = .ok (.iconst 0, 1) := by decide +kernel
theorem dX14_costOf_182 : decode cX14_costOf 182 = .ok (.iadd, 1) := by decide +kernel
theorem dX14_costOf_183 : decode cX14_costOf 183 = .ok (.iadd, 1) := by decide +kernel
theorem dX14_costOf_184 : decode cX14_costOf 184 = .ok (.istore_n 2, 1) := by decide +kernel
theorem dX14_costOf_185 : decode cX14_costOf 185 = .ok (.iload 7, 2) := by decide +kernel
theorem dX14_costOf_187 : decode cX14_costOf 187 = .ok (.ifCond .ne 12, 3) := by decide +kernel
theorem dX14_costOf_190 : decode cX14_costOf 190 = .ok (.iload_n 3, 1) := by decide +kernel
theorem dX14_costOf_191 : decode cX14_costOf 191 = .ok (.ifCond .eq 12, 3) := by decide +kernel
theorem dX14_costOf_194 : decode cX14_costOf 194 = .ok (.iload 6, 2) := by decide +kernel
theorem dX14_costOf_196 : decode cX14_costOf 196 = .ok (.ifCond .ne 7, 3) := by decide +kernel
theorem dX14_costOf_199 : decode cX14_costOf 199 = .ok (.iconst 1, 1) := by decide +kernel
theorem dX14_costOf_200 : decode cX14_costOf 200 = .ok (.goto 4, 3) := by decide +kernel
theorem dX14_costOf_203 : decode cX14_costOf 203 = .ok (.iconst 0, 1) := by decide +kernel
theorem dX14_costOf_204 : decode cX14_costOf 204 = .ok (.istore_n 3, 1) := by decide +kernel
theorem dX14_costOf_205 : decode cX14_costOf 205 = .ok (.iinc 4 1, 3) := by decide +kernel
theorem dX14_costOf_208 : decode cX14_costOf 208 = .ok (.goto (-180), 3) := by decide +kernel
theorem dX14_costOf_211 : decode cX14_costOf 211 = .ok (.iload_n 2, 1) := by decide +kernel
theorem dX14_costOf_212 : decode cX14_costOf 212 = .ok (.ireturn, 1) := by decide +kernel
theorem dX14_tracesCost_0 : decode cX14_tracesCost 0 = .ok (.iconst 0, 1) := by decide +kernel
theorem dX14_tracesCost_1 : decode cX14_tracesCost 1 = .ok (.istore_n 1, 1) := by decide +kernel
theorem dX14_tracesCost_2 : decode cX14_tracesCost 2 = .ok (.iload_n 1, 1) := by decide +kernel
theorem dX14_tracesCost_3 : decode cX14_tracesCost 3 = .ok (.bipush 100, 2) := by decide +kernel
theorem dX14_tracesCost_5 : decode cX14_tracesCost 5 = .ok (.if_icmp .gt 30, 3) := by decide +kernel
theorem dX14_tracesCost_8 : decode cX14_tracesCost 8 = .ok (.aload_n 0, 1) := by decide +kernel
theorem dX14_tracesCost_9 : decode cX14_tracesCost 9 = .ok (.getfield 90, 3) := by decide +kernel
theorem dX14_tracesCost_12 : decode cX14_tracesCost 12 = .ok (.iload_n 1, 1) := by decide +kernel
theorem dX14_tracesCost_13 : decode cX14_tracesCost 13 = .ok (.iconst 0, 1) := by decide +kernel
theorem dX14_tracesCost_14 : decode cX14_tracesCost 14 = .ok (.iastore, 1) := by decide +kernel
theorem dX14_tracesCost_15 : decode cX14_tracesCost 15 = .ok (.aload_n 0, 1) := by decide +kernel
theorem dX14_tracesCost_16 : decode cX14_tracesCost 16 = .ok (.getfield 93, 3) := by decide +kernel
theorem dX14_tracesCost_19 : decode cX14_tracesCost 19 = .ok (.iload_n 1, 1) := by decide +kernel
theorem dX14_tracesCost_20 : decode cX14_tracesCost 20 = .ok (.iconst 0, 1) := by decide +kernel
theorem dX14_tracesCost_21 : decode cX14_tracesCost 21 = .ok (.iastore, 1) := by decide +kernel
theorem dX14_tracesCost_22 : decode cX14_tracesCost 22 = .ok (.aload_n 0, 1) := by decide +kernel
theorem dX14_tracesCost_23 : decode cX14_tracesCost 23 = .ok (.getfield 102, 3) := by decide +kernel
theorem dX14_tracesCost_26 : decode cX14_tracesCost 26 = .ok (.iload_n 1, 1) := by decide +kernel
theorem dX14_tracesCost_27 : decode cX14_tracesCost 27 = .ok (.iconst 0, 1) := by decide +kernel
theorem dX14_tracesCost_28 : decode cX14_tracesCost 28 = .ok (.bastore, 1) := by decide +kernel
theorem dX14_tracesCost_29 : decode cX14_tracesCost 29 = .ok (.iinc 1 1, 3) := by decide +kernel
theorem dX14_tracesCost_32 : decode cX14_tracesCost 32 = .ok (.goto (-30), 3) := by decide +kernel
theorem dX14_tracesCost_35 : decode cX14_tracesCost 35 = .ok (.iconst 0, 1) := by decide +kernel
theorem dX14_tracesCost_36 : decode cX14_tracesCost 36 = .ok (.istore_n 1, 1) := by decide +kernel
theorem dX14_tracesCost_37 : decode cX14_tracesCost 37 = .ok (.iconst (-1), 1) := by decide +kernel
theorem dX14_tracesCost_38 : decode cX14_tracesCost 38 = .ok (.istore_n 2, 1) := by decide +kernel
theorem dX14_tracesCost_39 : decode cX14_tracesCost 39 = .ok (.iconst 0, 1) := by decide +kernel
theorem dX14_tracesCost_40 : decode cX14_tracesCost 40 = .ok (.istore_n 3, 1) := by decide +kernel
theorem dX14_tracesCost_41 : decode cX14_tracesCost 41 = .ok (.iconst (-1), 1) := by decide +kernel
theorem dX14_tracesCost_42 : decode cX14_tracesCost 42 = .ok (.istore 4, 2) := by decide +kernel
theorem dX14_tracesCost_44 : decode cX14_tracesCost 44 = .ok (.iconst 0, 1) := by decide +kernel
theorem dX14_tracesCost_45 : decode cX14_tracesCost 45 = .ok (.istore 5, 2) := by decide +kernel
theorem dX14_tracesCost_47 : decode cX14_tracesCost 47 = .ok (.iconst 0, 1) := by decide +kernel
theorem dX14_tracesCost_48 : decode cX14_tracesCost 48 = .ok (.istore 6, 2) := by decide +kernel
theorem dX14_tracesCost_50 : decode cX14_tracesCost 50 = .ok (.iload 6, 2) := by decide +kernel
theorem dX14_tracesCost_52 : decode cX14_tracesCost 52 = .ok (.aload_n 0, 1) := by decide +kernel
theorem dX14_tracesCost_53 : decode cX14_tracesCost 53 = .ok (.getfield 271, 3) := by decide +kernel
theorem dX14_tracesCost_56 : decode cX14_tracesCost 56 = .ok (.if_icmp .ge 355, 3) := by decide +kernel
theorem dX14_tracesCost_59 : decode cX14_tracesCost 59 = .ok (.aload_n 0, 1) := by decide +kernel
theorem dX14_tracesCost_60 : decode cX14_tracesCost 60 = .ok (.getfield 77, 3) := by decide +kernel
theorem dX14_tracesCost_63 : decode cX14_tracesCost 63 = .ok (.iload 6, 2) := by decide +kernel
theorem dX14_tracesCost_65 : decode cX14_tracesCost 65 = .ok (.iaload, 1) := by decide +kernel
theorem dX14_tracesCost_66 : decode cX14_tracesCost 66 = .ok (.istore 7, 2) := by decide +kernel
theorem dX14_tracesCost_68 : decode cX14_tracesCost 68 = .ok (.aload_n 0, 1) := by decide +kernel
theorem dX14_tracesCost_69 : decode cX14_tracesCost 69 = .ok (.getfield 16, 3) := by decide +kernel
theorem dX14_tracesCost_72 : decode cX14_tracesCost 72 = .ok (.getfield 201, 3) := by decide +kernel
theorem dX14_tracesCost_75 : decode cX14_tracesCost 75 = .ok (.iload 7, 2) := by decide +kernel
theorem dX14_tracesCost_77 : decode cX14_tracesCost 77 = .ok (.iaload, 1) := by decide +kernel
theorem dX14_tracesCost_78 : decode cX14_tracesCost 78 = .ok (.istore 8, 2) := by decide +kernel
theorem dX14_tracesCost_80 : decode cX14_tracesCost 80 = .ok (.iload_n 2, 1) := by decide +kernel
theorem dX14_tracesCost_81 : decode cX14_tracesCost 81 = .ok (.iconst (-1), 1) := by decide +kernel
theorem dX14_tracesCost_82 : decode cX14_tracesCost 82 = .ok (.if_icmp .eq 61, 3) := by decide +kernel
theorem dX14_tracesCost_85 : decode cX14_tracesCost 85 = .ok (.iload_n 3, 1) := by decide +kernel
theorem dX14_tracesCost_86 : decode cX14_tracesCost 86 = .ok (.ifCond .le 57, 3) := by decide +kernel
theorem dX14_tracesCost_89 : decode cX14_tracesCost 89 = .ok (.iload 7, 2) := by decide +kernel
theorem dX14_tracesCost_91 : decode cX14_tracesCost 91 = .ok (.iload_n 2, 1) := by decide +kernel
theorem dX14_tracesCost_92 : decode cX14_tracesCost 92 = .ok (.if_icmp .ne 51, 3) := by decide +kernel
theorem dX14_tracesCost_95 : decode cX14_tracesCost 95 = .ok (.aload_n 0, 1) := by decide +kernel
theorem dX14_tracesCost_96 : decode cX14_tracesCost 96 = .ok (.getfield 93, 3) := by decide +kernel
theorem dX14_tracesCost_99 : decode cX14_tracesCost 99 = .ok (.iload 7, 2) := by decide +kernel
theorem dX14_tracesCost_101 : decode cX14_tracesCost 101 = .ok (.iload_n 3, 1) := by decide +kernel
theorem dX14_tracesCost_102 : decode cX14_tracesCost 102 = .ok (.iastore, 1) := by decide +kernel
theorem dX14_tracesCost_103 : decode cX14_tracesCost 103 = .ok (.iconst 0, 1) := by decide +kernel
theorem dX14_tracesCost_104 : decode cX14_tracesCost 104 = .ok (.istore 9, 2) := by decide +kernel
theorem dX14_tracesCost_106 : decode cX14_tracesCost 106 = .ok (.iload 9, 2) := by decide +kernel
theorem dX14_tracesCost_108 : decode cX14_tracesCost 108 = .ok (.iload_n 3, 1) := by decide +kernel
theorem dX14_tracesCost_109 : decode cX14_tracesCost 109 = .ok (.if_icmp .ge 29, 3) := by decide +kernel
theorem dX14_tracesCost_112 : decode cX14_tracesCost 112 = .ok (.aload_n 0, 1) := by decide +kernel
theorem dX14_tracesCost_113 : decode cX14_tracesCost 113 = .ok (.getfield 96, 3) := by decide +kernel
theorem dX14_tracesCost_116 : decode cX14_tracesCost 116 = .ok (.bipush 40, 2) := by decide +kernel
theorem dX14_tracesCost_118 : decode cX14_tracesCost 118 = .ok (.iload 7, 2) := by decide +kernel
theorem dX14_tracesCost_120 : decode cX14_tracesCost 120 = .ok (.imul, 1) := by decide +kernel
theorem dX14_tracesCost_121 : decode cX14_tracesCost 121 = .ok (.iload 9, 2) := by decide +kernel
theorem dX14_tracesCost_123 : decode cX14_tracesCost 123 = .ok (.iadd, 1) := by decide +kernel
theorem dX14_tracesCost_124 : decode cX14_tracesCost 124 = .ok (.aload_n 0, 1) := by decide +kernel
theorem dX14_tracesCost_125 : decode cX14_tracesCost 125 = .ok (.getfield 99, 3) := by decide +kernel
theorem dX14_tracesCost_128 : decode cX14_tracesCost 128 = .ok (.iload 9, 2) := by decide +kernel
theorem dX14_tracesCost_130 : decode cX14_tracesCost 130 = .ok (.iaload, 1) := by decide +kernel
theorem dX14_tracesCost_131 : decode cX14_tracesCost 131 = .ok (.iastore, 1) := by decide +kernel
theorem dX14_tracesCost_132 : decode cX14_tracesCost 132 = .ok (.iinc 9 1, 3) := by decide +kernel
theorem dX14_tracesCost_135 : decode cX14_tracesCost 135 = .ok (.goto (-29), 3) := by decide +kernel
theorem dX14_tracesCost_138 : decode cX14_tracesCost 138 = .ok (.iconst (-1), 1) := by decide +kernel
theorem dX14_tracesCost_139 : decode cX14_tracesCost 139 = .ok (.istore_n 2, 1) := by decide +kernel
theorem dX14_tracesCost_140 : decode cX14_tracesCost 140 = .ok (.goto 23, 3) := by decide +kernel
theorem dX14_tracesCost_143 : decode cX14_tracesCost 143 = .ok (.iload_n 2, 1) := by decide +kernel
theorem dX14_tracesCost_144 : decode cX14_tracesCost 144 = .ok (.iconst (-1), 1) := by decide +kernel
theorem dX14_tracesCost_145 : decode cX14_tracesCost 145 = .ok (.if_icmp .eq 18, 3) := by decide +kernel
theorem dX14_tracesCost_148 : decode cX14_tracesCost 148 = .ok (.iload_n 3, 1) := by decide +kernel
theorem dX14_tracesCost_149 : decode cX14_tracesCost 149 = .ok (.bipush 40, 2) := by decide +kernel
theorem dX14_tracesCost_151 : decode cX14_tracesCost 151 = .ok (.if_icmp .ne 12, 3) := by decide +kernel
theorem dX14_tracesCost_154 : decode cX14_tracesCost 154 = .ok (.aload_n 0, 1) := by decide +kernel
theorem dX14_tracesCost_155 : decode cX14_tracesCost 155 = .ok (.getfield 102, 3) := by decide +kernel
theorem dX14_tracesCost_158 : decode cX14_tracesCost 158 = .ok (.iload_n 2, 1) := by decide +kernel
theorem dX14_tracesCost_159 : decode cX14_tracesCost 159 = .ok (.iconst 1, 1) := by decide +kernel
theorem dX14_tracesCost_160 : decode cX14_tracesCost 160 = .ok (.bastore, 1) := by decide +kernel
theorem dX14_tracesCost_161 : decode cX14_tracesCost 161 = .ok (.iconst (-1), 1) := by decide +kernel
theorem dX14_tracesCost_162 : decode cX14_tracesCost 162 = .ok (.istore_n 2, 1) := by decide +kernel
theorem dX14_tracesCost_163 : decode cX14_tracesCost 163 = .ok (.iload_n 2, 1) := by decide +kernel
theorem dX14_tracesCost_164 : decode cX14_tracesCost 164 = .ok (.iconst (-1), 1) := by decide +kernel
theorem dX14_tracesCost_165 : decode cX14_tracesCost 165 = .ok (.if_icmp .eq 14, 3) := by decide +kernel
theorem dX14_tracesCost_168 : decode cX14_tracesCost 168 = .ok (.aload_n 0, 1) := by decide +kernel
theorem dX14_tracesCost_169 : decode cX14_tracesCost 169 = .ok (.getfield 99, 3) := by decide +kernel
theorem dX14_tracesCost_172 : decode cX14_tracesCost 172 = .ok (.iload_n 3, 1) := by decide +kernel
theorem dX14_tracesCost_173 : decode cX14_tracesCost 173 = .ok (.iload 7, 2) := by decide +kernel
theorem dX14_tracesCost_175 : decode cX14_tracesCost 175 = .ok (.iastore, 1) := by decide +kernel
theorem dX14_tracesCost_176 : decode cX14_tracesCost 176 = .ok (.iinc 3 1, 3) := by decide +kernel
theorem dX14_tracesCost_179 : decode cX14_tracesCost 179 = .ok (.iload_n 1, 1) := by decide +kernel
theorem dX14_tracesCost_180 : decode cX14_tracesCost 180 = .ok (.iload 8, 2) := by decide +kernel
theorem dX14_tracesCost_182 : decode cX14_tracesCost 182 = .ok (.invokestatic 304, 3) := by decide +kernel
theorem dX14_tracesCost_185 : decode cX14_tracesCost 185 = .ok (.iadd, 1) := by decide +kernel
theorem dX14_tracesCost_186 : decode cX14_tracesCost 186 = .ok (.istore_n 1, 1) := by decide +kernel
theorem dX14_tracesCost_187 : decode cX14_tracesCost 187 = .ok (.iconst 0, 1) := by decide +kernel
theorem dX14_tracesCost_188 : decode cX14_tracesCost 188 = .ok (.istore 9, 2) := by decide +kernel
theorem dX14_tracesCost_190 : decode cX14_tracesCost 190 = .ok (.iload 4, 2) := by decide +kernel
theorem dX14_tracesCost_192 : decode cX14_tracesCost 192 = .ok (.iconst (-1), 1) := by decide +kernel
theorem dX14_tracesCost_193 : decode cX14_tracesCost 193 = .ok (.if_icmp .eq 28, 3) := by decide +kernel
theorem dX14_tracesCost_196 : decode cX14_tracesCost 196 = .ok (.aload_n 0, 1) := by decide +kernel
theorem dX14_tracesCost_197 : decode cX14_tracesCost 197 = .ok (.getfield 96, 3) := by decide +kernel
theorem dX14_tracesCost_200 : decode cX14_tracesCost 200 = .ok (.bipush 40, 2) := by decide +kernel
theorem dX14_tracesCost_202 : decode cX14_tracesCost 202 = .ok (.iload 4, 2) := by decide +kernel
theorem dX14_tracesCost_204 : decode cX14_tracesCost 204 = .ok (.imul, 1) := by decide +kernel
theorem dX14_tracesCost_205 : decode cX14_tracesCost 205 = .ok (.iload 5, 2) := by decide +kernel
theorem dX14_tracesCost_207 : decode cX14_tracesCost 207 = .ok (.iadd, 1) := by decide +kernel
theorem dX14_tracesCost_208 : decode cX14_tracesCost 208 = .ok (.iaload, 1) := by decide +kernel
theorem dX14_tracesCost_209 : decode cX14_tracesCost 209 = .ok (.iload 7, 2) := by decide +kernel
theorem dX14_tracesCost_211 : decode cX14_tracesCost 211 = .ok (.if_icmp .eq 10, 3) := by decide +kernel
theorem dX14_tracesCost_214 : decode cX14_tracesCost 214 = .ok (.iconst (-1), 1) := by decide +kernel
theorem dX14_tracesCost_215 : decode cX14_tracesCost 215 = .ok (.istore 4, 2) := by decide +kernel
theorem dX14_tracesCost_217 : decode cX14_tracesCost 217 = .ok (.bipush 10, 2) := by decide +kernel
theorem dX14_tracesCost_219 : decode cX14_tracesCost 219 = .ok (.istore 9, 2) := by decide +kernel
theorem dX14_tracesCost_221 : decode cX14_tracesCost 221 = .ok (.iload 4, 2) := by decide +kernel
theorem dX14_tracesCost_223 : decode cX14_tracesCost 223 = .ok (.iconst (-1), 1) := by decide +kernel
theorem dX14_tracesCost_224 : decode cX14_tracesCost 224 = .ok (.if_icmp .ne 20, 3) := by decide +kernel
theorem dX14_tracesCost_227 : decode cX14_tracesCost 227 = .ok (.aload_n 0, 1) := by decide +kernel
theorem dX14_tracesCost_228 : decode cX14_tracesCost 228 = .ok (.getfield 93, 3) := by decide +kernel
theorem dX14_tracesCost_231 : decode cX14_tracesCost 231 = .ok (.iload 7, 2) := by decide +kernel
theorem dX14_tracesCost_233 : decode cX14_tracesCost 233 = .ok (.iaload, 1) := by decide +kernel
theorem dX14_tracesCost_234 : decode cX14_tracesCost 234 = .ok (.ifCond .le 10, 3) := by decide +kernel
theorem dX14_tracesCost_237 : decode cX14_tracesCost 237 = .ok (.iload 7, 2) := by decide +kernel
theorem dX14_tracesCost_239 : decode cX14_tracesCost 239 = .ok (.istore 4, 2) := by decide +kernel
theorem dX14_tracesCost_241 : decode cX14_tracesCost 241 = .ok (.iconst 0, 1) := by decide +kernel
theorem dX14_tracesCost_242 : decode cX14_tracesCost 242 = .ok (.istore 5, 2) := by decide +kernel
theorem dX14_tracesCost_244 : decode cX14_tracesCost 244 = .ok (.iload_n 1, 1) := by decide +kernel
theorem dX14_tracesCost_245 : decode cX14_tracesCost 245 = .ok (.iload 9, 2) := by decide +kernel
theorem dX14_tracesCost_247 : decode cX14_tracesCost 247 = .ok (.iload 4, 2) := by decide +kernel
theorem dX14_tracesCost_249 : decode cX14_tracesCost 249 = .ok (.iconst (-1), 1) := by decide +kernel
theorem dX14_tracesCost_250 : decode cX14_tracesCost 250 = .ok (.if_icmp .ne 7, 3) := by decide +kernel
theorem dX14_tracesCost_253 : decode cX14_tracesCost 253 = .ok (.iconst 4, 1) := by decide +kernel
theorem dX14_tracesCost_254 : decode cX14_tracesCost 254 = .ok (.goto 15, 3) := by decide +kernel
theorem dX14_tracesCost_257 : decode cX14_tracesCost 257 = .ok (.iload 8, 2) := by decide +kernel
theorem dX14_tracesCost_259 : decode cX14_tracesCost 259 = .ok (.bipush 12, 2) := by decide +kernel
theorem dX14_tracesCost_261 : decode cX14_tracesCost 261 = .ok (.if_icmp .ne 7, 3) := by decide +kernel
theorem dX14_tracesCost_264 : decode cX14_tracesCost 264 = .ok (.iconst 1, 1) := by decide +kernel
theorem dX14_tracesCost_265 : decode cX14_tracesCost 265 = .ok (.goto 4, 3) := by decide +kernel
theorem dX14_tracesCost_268 : decode cX14_tracesCost 268 = .ok (.iconst 0, 1) := by decide +kernel
theorem dX14_tracesCost_269 : decode cX14_tracesCost 269 = .ok (.iadd, 1) := by decide +kernel
theorem dX14_tracesCost_270 : decode cX14_tracesCost 270 = .ok (.iadd, 1) := by decide +kernel
theorem dX14_tracesCost_271 : decode cX14_tracesCost 271 = .ok (.istore_n 1, 1) := by decide +kernel
theorem dX14_tracesCost_272 : decode cX14_tracesCost 272 = .ok (.iload 4, 2) := by decide +kernel
theorem dX14_tracesCost_274 : decode cX14_tracesCost 274 = .ok (.iconst (-1), 1) := by decide +kernel
theorem dX14_tracesCost_275 : decode cX14_tracesCost 275 = .ok (.if_icmp .eq 17, 3) := by decide +kernel
theorem dX14_tracesCost_278 : decode cX14_tracesCost 278 = .ok (.iload 5, 2) := by decide +kernel
theorem dX14_tracesCost_280 : decode cX14_tracesCost 280 = .ok (.iconst 1, 1) := by decide +kernel
theorem dX14_tracesCost_281 : decode cX14_tracesCost 281 = .ok (.iadd, 1) := by decide +kernel
theorem dX14_tracesCost_282 : decode cX14_tracesCost 282 = .ok (.aload_n 0, 1) := by decide +kernel
theorem dX14_tracesCost_283 : decode cX14_tracesCost 283 = .ok (.getfield 93, 3) := by decide +kernel
theorem dX14_tracesCost_286 : decode cX14_tracesCost 286 = .ok (.iload 4, 2) := by decide +kernel
theorem dX14_tracesCost_288 : decode cX14_tracesCost 288 = .ok (.iaload, 1) := by decide +kernel
theorem dX14_tracesCost_289 : decode cX14_tracesCost 289 = .ok (.irem, 1) := by decide +kernel
theorem dX14_tracesCost_290 : decode cX14_tracesCost 290 = .ok (.istore 5, 2) := by decide +kernel
theorem dX14_tracesCost_292 : decode cX14_tracesCost 292 = .ok (.iload 8, 2) := by decide +kernel
theorem dX14_tracesCost_294 : decode cX14_tracesCost 294 = .ok (.bipush 11, 2) := by decide +kernel
theorem dX14_tracesCost_296 : decode cX14_tracesCost 296 = .ok (.if_icmp .eq 10, 3) := by decide +kernel
theorem dX14_tracesCost_299 : decode cX14_tracesCost 299 = .ok (.iload 8, 2) := by decide +kernel
theorem dX14_tracesCost_301 : decode cX14_tracesCost 301 = .ok (.bipush 12, 2) := by decide +kernel
theorem dX14_tracesCost_303 : decode cX14_tracesCost 303 = .ok (.if_icmp .ne 16, 3) := by decide +kernel
theorem dX14_tracesCost_306 : decode cX14_tracesCost 306 = .ok (.aload_n 0, 1) := by decide +kernel
theorem dX14_tracesCost_307 : decode cX14_tracesCost 307 = .ok (.iload 6, 2) := by decide +kernel
theorem dX14_tracesCost_309 : decode cX14_tracesCost 309 = .ok (.invokevirtual 307, 3) := by decide +kernel
theorem dX14_tracesCost_312 : decode cX14_tracesCost 312 = .ok (.ifCond .eq 7, 3) := by decide +kernel
theorem dX14_tracesCost_315 : decode cX14_tracesCost 315 = .ok (.iconst 1, 1) := by decide +kernel
theorem dX14_tracesCost_316 : decode cX14_tracesCost 316 = .ok (.goto 4, 3) := by decide +kernel
theorem dX14_tracesCost_319 : decode cX14_tracesCost 319 = .ok (.iconst 0, 1) := by decide +kernel
theorem dX14_tracesCost_320 : decode cX14_tracesCost 320 = .ok (.istore 10, 2) := by decide +kernel
theorem dX14_tracesCost_322 : decode cX14_tracesCost 322 = .ok (.aload_n 0, 1) := by decide +kernel
theorem dX14_tracesCost_323 : decode cX14_tracesCost 323 = .ok (.getfield 16, 3) := by decide +kernel
theorem dX14_tracesCost_326 : decode cX14_tracesCost 326 = .ok (.getfield 203, 3) := by decide +kernel
theorem dX14_tracesCost_329 : decode cX14_tracesCost 329 = .ok (.iload 7, 2) := by decide +kernel
theorem dX14_tracesCost_331 : decode cX14_tracesCost 331 = .ok (.iaload, 1) := by decide +kernel
theorem dX14_tracesCost_332 : decode cX14_tracesCost 332 = .ok (.istore 11, 2) := by decide +kernel
theorem dX14_tracesCost_334 : decode cX14_tracesCost 334 = .ok (.iload 10, 2) := by decide +kernel
theorem dX14_tracesCost_336 : decode cX14_tracesCost 336 = .ok (.ifCond .eq 69, 3) := by decide +kernel
theorem dX14_tracesCost_339 : decode cX14_tracesCost 339 = .ok (.iload 11, 2) := by decide +kernel
theorem dX14_tracesCost_341 : decode cX14_tracesCost 341 = .ok (.iload 7, 2) := by decide +kernel
theorem dX14_tracesCost_343 : decode cX14_tracesCost 343 = .ok (.if_icmp .gt 62, 3) := by decide +kernel
theorem dX14_tracesCost_346 : decode cX14_tracesCost 346 = .ok (.aload_n 0, 1) := by decide +kernel
theorem dX14_tracesCost_347 : decode cX14_tracesCost 347 = .ok (.getfield 93, 3) := by decide +kernel
theorem dX14_tracesCost_350 : decode cX14_tracesCost 350 = .ok (.iload 11, 2) := by decide +kernel
theorem dX14_tracesCost_352 : decode cX14_tracesCost 352 = .ok (.iaload, 1) := by decide +kernel
theorem dX14_tracesCost_353 : decode cX14_tracesCost 353 = .ok (.ifCond .gt 52, 3) := by decide +kernel
theorem dX14_tracesCost_356 : decode cX14_tracesCost 356 = .ok (.aload_n 0, 1) := by decide +kernel
theorem dX14_tracesCost_357 : decode cX14_tracesCost 357 = .ok (.getfield 102, 3) := by decide +kernel
theorem dX14_tracesCost_360 : decode cX14_tracesCost 360 = .ok (.iload 11, 2) := by decide +kernel
theorem dX14_tracesCost_362 : decode cX14_tracesCost 362 = .ok (.baload, 1) := by decide +kernel
theorem dX14_tracesCost_363 : decode cX14_tracesCost 363 = .ok (.ifCond .eq 6, 3) := by decide +kernel
theorem dX14_tracesCost_366 : decode cX14_tracesCost 366 = .ok (.goto 39, 3) := by decide +kernel
theorem dX14_tracesCost_369 : decode cX14_tracesCost 369 = .ok (.aload_n 0, 1) := by decide +kernel
theorem dX14_tracesCost_370 : decode cX14_tracesCost 370 = .ok (.getfield 90, 3) := by decide +kernel
theorem dX14_tracesCost_373 : decode cX14_tracesCost 373 = .ok (.iload 11, 2) := by decide +kernel
theorem dX14_tracesCost_375 : decode cX14_tracesCost 375 = .ok (.dup2, 1) := by decide +kernel
theorem dX14_tracesCost_376 : decode cX14_tracesCost 376 = .ok (.iaload, 1) := by decide +kernel
theorem dX14_tracesCost_377 : decode cX14_tracesCost 377 = .ok (.iconst 1, 1) := by decide +kernel
theorem dX14_tracesCost_378 : decode cX14_tracesCost 378 = .ok (.iadd, 1) := by decide +kernel
theorem dX14_tracesCost_379 : decode cX14_tracesCost 379 = .ok (.iastore, 1) := by decide +kernel
theorem dX14_tracesCost_380 : decode cX14_tracesCost 380 = .ok (.aload_n 0, 1) := by decide +kernel
theorem dX14_tracesCost_381 : decode cX14_tracesCost 381 = .ok (.getfield 90, 3) := by decide +kernel
theorem dX14_tracesCost_384 : decode cX14_tracesCost 384 = .ok (.iload 11, 2) := by decide +kernel
theorem dX14_tracesCost_386 : decode cX14_tracesCost 386 = .ok (.iaload, 1) := by decide +kernel
theorem dX14_tracesCost_387 : decode cX14_tracesCost 387 = .ok (.bipush 8, 2) := by decide +kernel
theorem dX14_tracesCost_389 : decode cX14_tracesCost 389 = .ok (.if_icmp .lt 16, 3) := by decide +kernel
theorem dX14_tracesCost_392 : decode cX14_tracesCost 392 = .ok (.iload_n 2, 1) := by decide +kernel
theorem dX14_tracesCost_393 : decode cX14_tracesCost 393 = .ok (.iconst (-1), 1) := by decide +kernel
theorem dX14_tracesCost_394 : decode cX14_tracesCost 394 = .ok (.if_icmp .eq 6, 3) := by decide +kernel
theorem dX14_tracesCost_397 : decode cX14_tracesCost 397 = .ok (.goto 8, 3) := by decide +kernel
theorem dX14_tracesCost_400 : decode cX14_tracesCost 400 = .ok (.iload 11, 2) := by decide +kernel
theorem dX14_tracesCost_402 : decode cX14_tracesCost 402 = .ok (.istore_n 2, 1) := by decide +kernel
theorem dX14_tracesCost_403 : decode cX14_tracesCost 403 = .ok (.iconst 0, 1) := by decide +kernel
theorem dX14_tracesCost_404 : decode cX14_tracesCost 404 = .ok (.istore_n 3, 1) := by decide +kernel
theorem dX14_tracesCost_405 : decode cX14_tracesCost 405 = .ok (.iinc 6 1, 3) := by decide +kernel
theorem dX14_tracesCost_408 : decode cX14_tracesCost 408 = .ok (.goto (-358), 3) := by decide +kernel
theorem dX14_tracesCost_411 : decode cX14_tracesCost 411 = .ok (.iload_n 1, 1) := by decide +kernel
theorem dX14_tracesCost_412 : decode cX14_tracesCost 412 = .ok (.ireturn, 1) := by decide +kernel
theorem dX14_jumped_0 : decode cX14_jumped 0 = .ok (.aload_n 0, 1) := by decide +kernel
theorem dX14_jumped_1 : decode cX14_jumped 1 = .ok (.getfield 77, 3) := by decide +kernel
theorem dX14_jumped_4 : decode cX14_jumped 4 = .ok (.iload_n 1, 1) := by decide +kernel
theorem dX14_jumped_5 : decode cX14_jumped 5 = .ok (.iaload, 1) := by decide +kernel
theorem dX14_jumped_6 : decode cX14_jumped 6 = .ok (.istore_n 2, 1) := by decide +kernel
theorem dX14_jumped_7 : decode cX14_jumped 7 = .ok (.aload_n 0, 1) := by decide +kernel
theorem dX14_jumped_8 : decode cX14_jumped 8 = .ok (.getfield 16, 3) := by decide +kernel
theorem dX14_jumped_11 : decode cX14_jumped 11 = .ok (.getfield 201, 3) := by decide +kernel
theorem dX14_jumped_14 : decode cX14_jumped 14 = .ok (.iload_n 2, 1) := by decide +kernel
theorem dX14_jumped_15 : decode cX14_jumped 15 = .ok (.iaload, 1) := by decide +kernel
theorem dX14_jumped_16 : decode cX14_jumped 16 = .ok (.bipush 11, 2) := by decide +kernel
theorem dX14_jumped_18 : decode cX14_jumped 18 = .ok (.if_icmp .ne 5, 3) := by decide +kernel
theorem dX14_jumped_21 : decode cX14_jumped 21 = .ok (.iconst 1, 1) := by decide +kernel
theorem dX14_jumped_22 : decode cX14_jumped 22 = .ok (.ireturn, 1) := by decide +kernel
theorem dX14_jumped_23 : decode cX14_jumped 23 = .ok (.iload_n 1, 1) := by decide +kernel
theorem dX14_jumped_24 : decode cX14_jumped 24 = .ok (.iconst 1, 1) := by decide +kernel
theorem dX14_jumped_25 : decode cX14_jumped 25 = .ok (.iadd, 1) := by decide +kernel
theorem dX14_jumped_26 : decode cX14_jumped 26 = .ok (.aload_n 0, 1) := by decide +kernel
theorem dX14_jumped_27 : decode cX14_jumped 27 = .ok (.getfield 271, 3) := by decide +kernel
theorem dX14_jumped_30 : decode cX14_jumped 30 = .ok (.if_icmp .ge 14, 3) := by decide +kernel
theorem dX14_jumped_33 : decode cX14_jumped 33 = .ok (.aload_n 0, 1) := by decide +kernel
theorem dX14_jumped_34 : decode cX14_jumped 34 = .ok (.getfield 77, 3) := by decide +kernel
theorem dX14_jumped_37 : decode cX14_jumped 37 = .ok (.iload_n 1, 1) := by decide +kernel
theorem dX14_jumped_38 : decode cX14_jumped 38 = .ok (.iconst 1, 1) := by decide +kernel
theorem dX14_jumped_39 : decode cX14_jumped 39 = .ok (.iadd, 1) := by decide +kernel
theorem dX14_jumped_40 : decode cX14_jumped 40 = .ok (.iaload, 1) := by decide +kernel
theorem dX14_jumped_41 : decode cX14_jumped 41 = .ok (.goto 7, 3) := by decide +kernel
theorem dX14_jumped_44 : decode cX14_jumped 44 = .ok (.aload_n 0, 1) := by decide +kernel
theorem dX14_jumped_45 : decode cX14_jumped 45 = .ok (.getfield 283, 3) := by decide +kernel
theorem dX14_jumped_48 : decode cX14_jumped 48 = .ok (.istore_n 3, 1) := by decide +kernel
theorem dX14_jumped_49 : decode cX14_jumped 49 = .ok (.aload_n 0, 1) := by decide +kernel
theorem dX14_jumped_50 : decode cX14_jumped 50 = .ok (.getfield 16, 3) := by decide +kernel
theorem dX14_jumped_53 : decode cX14_jumped 53 = .ok (.getfield 203, 3) := by decide +kernel
theorem dX14_jumped_56 : decode cX14_jumped 56 = .ok (.iload_n 2, 1) := by decide +kernel
theorem dX14_jumped_57 : decode cX14_jumped 57 = .ok (.iaload, 1) := by decide +kernel
theorem dX14_jumped_58 : decode cX14_jumped 58 = .ok (.iload_n 2, 1) := by decide +kernel
theorem dX14_jumped_59 : decode cX14_jumped 59 = .ok (.iconst 1, 1) := by decide +kernel
theorem dX14_jumped_60 : decode cX14_jumped 60 = .ok (.iadd, 1) := by decide +kernel
theorem dX14_jumped_61 : decode cX14_jumped 61 = .ok (.if_icmp .eq 22, 3) := by decide +kernel
theorem dX14_jumped_64 : decode cX14_jumped 64 = .ok (.iload_n 3, 1) := by decide +kernel
theorem dX14_jumped_65 : decode cX14_jumped 65 = .ok (.aload_n 0, 1) := by decide +kernel
theorem dX14_jumped_66 : decode cX14_jumped 66 = .ok (.getfield 16, 3) := by decide +kernel
theorem dX14_jumped_69 : decode cX14_jumped 69 = .ok (.getfield 203, 3) := by decide +kernel
theorem dX14_jumped_72 : decode cX14_jumped 72 = .ok (.iload_n 2, 1) := by decide +kernel
theorem dX14_jumped_73 : decode cX14_jumped 73 = .ok (.iaload, 1) := by decide +kernel
theorem dX14_jumped_74 : decode cX14_jumped 74 = .ok (.if_icmp .ne 7, 3) := by decide +kernel
theorem dX14_jumped_77 : decode cX14_jumped 77 = .ok (.iconst 1, 1) := by decide +kernel
theorem dX14_jumped_78 : decode cX14_jumped 78 = .ok (.goto 4, 3) := by decide +kernel
theorem dX14_jumped_81 : decode cX14_jumped 81 = .ok (.iconst 0, 1) := by decide +kernel
theorem dX14_jumped_82 : decode cX14_jumped 82 = .ok (.ireturn, 1) := by decide +kernel
theorem dX14_jumped_83 : decode cX14_jumped 83 = .ok (.iconst 0, 1) := by decide +kernel
theorem dX14_jumped_84 : decode cX14_jumped 84 = .ok (.ireturn, 1) := by decide +kernel
theorem dX14_asked_0 : decode cX14_asked 0 = .ok (.aload_n 0, 1) := by decide +kernel
theorem dX14_asked_1 : decode cX14_asked 1 = .ok (.getfield 243, 3) := by decide +kernel
theorem dX14_asked_4 : decode cX14_asked 4 = .ok (.ifCond .ne 7, 3) := by decide +kernel
theorem dX14_asked_7 : decode cX14_asked 7 = .ok (.iconst 4, 1) := by decide +kernel
theorem dX14_asked_8 : decode cX14_asked 8 = .ok (.goto 28, 3) := by decide +kernel
theorem dX14_asked_11 : decode cX14_asked 11 = .ok (.iload_n 1, 1) := by decide +kernel
theorem dX14_asked_12 : decode cX14_asked 12 = .ok (.iconst 0, 1) := by decide +kernel
theorem dX14_asked_13 : decode cX14_asked 13 = .ok (.iconst 4, 1) := by decide +kernel
theorem dX14_asked_14 : decode cX14_asked 14 = .ok (.invokestatic 252, 3) := by decide +kernel
theorem dX14_asked_17 : decode cX14_asked 17 = .ok (.ifCond .eq 18, 3) := by decide +kernel
theorem dX14_asked_20 : decode cX14_asked 20 = .ok (.iload_n 2, 1) := by decide +kernel
theorem dX14_asked_21 : decode cX14_asked 21 = .ok (.iconst 1, 1) := by decide +kernel
theorem dX14_asked_22 : decode cX14_asked 22 = .ok (.sipush 5000, 3) := by decide +kernel
theorem dX14_asked_25 : decode cX14_asked 25 = .ok (.invokestatic 252, 3) := by decide +kernel
theorem dX14_asked_28 : decode cX14_asked 28 = .ok (.ifCond .eq 7, 3) := by decide +kernel
theorem dX14_asked_31 : decode cX14_asked 31 = .ok (.iconst 0, 1) := by decide +kernel
theorem dX14_asked_32 : decode cX14_asked 32 = .ok (.goto 4, 3) := by decide +kernel
theorem dX14_asked_35 : decode cX14_asked 35 = .ok (.iconst 1, 1) := by decide +kernel
theorem dX14_asked_36 : decode cX14_asked 36 = .ok (.ireturn, 1) := by decide +kernel
theorem dX14_run_0 : decode cX14_run 0 = .ok (.aload_n 0, 1) := by decide +kernel
theorem dX14_run_1 : decode cX14_run 1 = .ok (.iconst 0, 1) := by decide +kernel
theorem dX14_run_2 : decode cX14_run 2 = .ok (.putfield 129, 3) := by decide +kernel
theorem dX14_run_5 : decode cX14_run 5 = .ok (.aload_n 0, 1) := by decide +kernel
theorem dX14_run_6 : decode cX14_run 6 = .ok (.iload_n 1, 1) := by decide +kernel
theorem dX14_run_7 : decode cX14_run 7 = .ok (.iload_n 2, 1) := by decide +kernel
theorem dX14_run_8 : decode cX14_run 8 = .ok (.invokevirtual 310, 3) := by decide +kernel
theorem dX14_run_11 : decode cX14_run 11 = .ok (.ifCond .le 14, 3) := by decide +kernel
theorem dX14_run_14 : decode cX14_run 14 = .ok (.aload_n 0, 1) := by decide +kernel
theorem dX14_run_15 : decode cX14_run 15 = .ok (.aload_n 0, 1) := by decide +kernel
theorem dX14_run_16 : decode cX14_run 16 = .ok (.iload_n 1, 1) := by decide +kernel
theorem dX14_run_17 : decode cX14_run 17 = .ok (.iload_n 2, 1) := by decide +kernel
theorem dX14_run_18 : decode cX14_run 18 = .ok (.invokevirtual 310, 3) := by decide +kernel
theorem dX14_run_21 : decode cX14_run 21 = .ok (.invokevirtual 234, 3) := by decide +kernel
theorem dX14_run_24 : decode cX14_run 24 = .ok (.ireturn, 1) := by decide +kernel
theorem dX14_run_25 : decode cX14_run 25 = .ok (.aload_n 0, 1) := by decide +kernel
theorem dX14_run_26 : decode cX14_run 26 = .ok (.iload_n 2, 1) := by decide +kernel
theorem dX14_run_27 : decode cX14_run 27 = .ok (.invokevirtual 313, 3) := by decide +kernel
theorem dX14_run_30 : decode cX14_run 30 = .ok (.aload_n 0, 1) := by decide +kernel
theorem dX14_run_31 : decode cX14_run 31 = .ok (.iconst 1, 1) := by decide +kernel
theorem dX14_run_32 : decode cX14_run 32 = .ok (.putfield 317, 3) := by decide +kernel
theorem dX14_run_35 : decode cX14_run 35 = .ok (.aload_n 0, 1) := by decide +kernel
theorem dX14_run_36 : decode cX14_run 36 = .ok (.aload_n 0, 1) := by decide +kernel
theorem dX14_run_37 : decode cX14_run 37 = .ok (.getfield 16, 3) := by decide +kernel
theorem dX14_run_40 : decode cX14_run 40 = .ok (.getfield 186, 3) := by decide +kernel
theorem dX14_run_43 : decode cX14_run 43 = .ok (.putfield 320, 3) := by decide +kernel
theorem dX14_run_46 : decode cX14_run 46 = .ok (.aload_n 0, 1) := by decide +kernel
theorem dX14_run_47 : decode cX14_run 47 = .ok (.iload_n 1, 1) := by decide +kernel
theorem dX14_run_48 : decode cX14_run 48 = .ok (.putfield 323, 3) := by decide +kernel
theorem dX14_run_51 : decode cX14_run 51 = .ok (.aload_n 0, 1) := by decide +kernel
theorem dX14_run_52 : decode cX14_run 52 = .ok (.aload_n 0, 1) := by decide +kernel
theorem dX14_run_53 : decode cX14_run 53 = .ok (.iload_n 1, 1) := by decide +kernel
theorem dX14_run_54 : decode cX14_run 54 = .ok (.invokevirtual 326, 3) := by decide +kernel
theorem dX14_run_57 : decode cX14_run 57 = .ok (.putfield 329, 3) := by decide +kernel
theorem dX14_run_60 : decode cX14_run 60 = .ok (.aload_n 0, 1) := by decide +kernel
theorem dX14_run_61 : decode cX14_run 61 = .ok (.aload_n 0, 1) := by decide +kernel
theorem dX14_run_62 : decode cX14_run 62 = .ok (.getfield 271, 3) := by decide +kernel
theorem dX14_run_65 : decode cX14_run 65 = .ok (.putfield 332, 3) := by decide +kernel
theorem dX14_run_68 : decode cX14_run 68 = .ok (.aload_n 0, 1) := by decide +kernel
theorem dX14_run_69 : decode cX14_run 69 = .ok (.aload_n 0, 1) := by decide +kernel
theorem dX14_run_70 : decode cX14_run 70 = .ok (.getfield 262, 3) := by decide +kernel
theorem dX14_run_73 : decode cX14_run 73 = .ok (.putfield 335, 3) := by decide +kernel
theorem dX14_run_76 : decode cX14_run 76 = .ok (.aload_n 0, 1) := by decide +kernel
theorem dX14_run_77 : decode cX14_run 77 = .ok (.aload_n 0, 1) := by decide +kernel
theorem dX14_run_78 : decode cX14_run 78 = .ok (.getfield 274, 3) := by decide +kernel
theorem dX14_run_81 : decode cX14_run 81 = .ok (.putfield 338, 3) := by decide +kernel
theorem dX14_run_84 : decode cX14_run 84 = .ok (.aload_n 0, 1) := by decide +kernel
theorem dX14_run_85 : decode cX14_run 85 = .ok (.aload_n 0, 1) := by decide +kernel
theorem dX14_run_86 : decode cX14_run 86 = .ok (.getfield 283, 3) := by decide +kernel
theorem dX14_run_89 : decode cX14_run 89 = .ok (.putfield 341, 3) := by decide +kernel
theorem dX14_run_92 : decode cX14_run 92 = .ok (.aload_n 0, 1) := by decide +kernel
theorem dX14_run_93 : decode cX14_run 93 = .ok (.aload_n 0, 1) := by decide +kernel
theorem dX14_run_94 : decode cX14_run 94 = .ok (.getfield 277, 3) := by decide +kernel
theorem dX14_run_97 : decode cX14_run 97 = .ok (.putfield 344, 3) := by decide +kernel
theorem dX14_run_100 : decode cX14_run 100 = .ok (.iconst 0, 1) := by decide +kernel
theorem dX14_run_101 : decode cX14_run 101 = .ok (.istore_n 3, 1) := by decide +kernel
theorem dX14_run_102 : decode cX14_run 102 = .ok (.iload_n 3, 1) := by decide +kernel
theorem dX14_run_103 : decode cX14_run 103 = .ok (.bipush 32, 2) := by decide +kernel
theorem dX14_run_105 : decode cX14_run 105 = .ok (.if_icmp .ge 21, 3) := by decide +kernel
theorem dX14_run_108 : decode cX14_run 108 = .ok (.aload_n 0, 1) := by decide +kernel
theorem dX14_run_109 : decode cX14_run 109 = .ok (.getfield 105, 3) := by decide +kernel
theorem dX14_run_112 : decode cX14_run 112 = .ok (.iload_n 3, 1) := by decide +kernel
theorem dX14_run_113 : decode cX14_run 113 = .ok (.aload_n 0, 1) := by decide +kernel
theorem dX14_run_114 : decode cX14_run 114 = .ok (.getfield 81, 3) := by decide +kernel
theorem dX14_run_117 : decode cX14_run 117 = .ok (.iload_n 3, 1) := by decide +kernel
theorem dX14_run_118 : decode cX14_run 118 = .ok (.iaload, 1) := by decide +kernel
theorem dX14_run_119 : decode cX14_run 119 = .ok (.iastore, 1) := by decide +kernel
theorem dX14_run_120 : decode cX14_run 120 = .ok (.iinc 3 1, 3) := by decide +kernel
theorem dX14_run_123 : decode cX14_run 123 = .ok (.goto (-21), 3) := by decide +kernel
theorem dX14_run_126 : decode cX14_run 126 = .ok (.iconst 0, 1) := by decide +kernel
theorem dX14_run_127 : decode cX14_run 127 = .ok (.istore_n 3, 1) := by decide +kernel
theorem dX14_run_128 : decode cX14_run 128 = .ok (.iload_n 3, 1) := by decide +kernel
theorem dX14_run_129 : decode cX14_run 129 = .ok (.bipush 8, 2) := by decide +kernel
theorem dX14_run_131 : decode cX14_run 131 = .ok (.if_icmp .ge 21, 3) := by decide +kernel
theorem dX14_run_134 : decode cX14_run 134 = .ok (.aload_n 0, 1) := by decide +kernel
theorem dX14_run_135 : decode cX14_run 135 = .ok (.getfield 108, 3) := by decide +kernel
theorem dX14_run_138 : decode cX14_run 138 = .ok (.iload_n 3, 1) := by decide +kernel
theorem dX14_run_139 : decode cX14_run 139 = .ok (.aload_n 0, 1) := by decide +kernel
theorem dX14_run_140 : decode cX14_run 140 = .ok (.getfield 84, 3) := by decide +kernel
theorem dX14_run_143 : decode cX14_run 143 = .ok (.iload_n 3, 1) := by decide +kernel
theorem dX14_run_144 : decode cX14_run 144 = .ok (.iaload, 1) := by decide +kernel
theorem dX14_run_145 : decode cX14_run 145 = .ok (.iastore, 1) := by decide +kernel
theorem dX14_run_146 : decode cX14_run 146 = .ok (.iinc 3 1, 3) := by decide +kernel
theorem dX14_run_149 : decode cX14_run 149 = .ok (.goto (-21), 3) := by decide +kernel
theorem dX14_run_152 : decode cX14_run 152 = .ok (.iconst 0, 1) := by decide +kernel
theorem dX14_run_153 : decode cX14_run 153 = .ok (.istore_n 3, 1) := by decide +kernel
theorem dX14_run_154 : decode cX14_run 154 = .ok (.iload_n 3, 1) := by decide +kernel
theorem dX14_run_155 : decode cX14_run 155 = .ok (.bipush 60, 2) := by decide +kernel
theorem dX14_run_157 : decode cX14_run 157 = .ok (.if_icmp .ge 21, 3) := by decide +kernel
theorem dX14_run_160 : decode cX14_run 160 = .ok (.aload_n 0, 1) := by decide +kernel
theorem dX14_run_161 : decode cX14_run 161 = .ok (.getfield 111, 3) := by decide +kernel
theorem dX14_run_164 : decode cX14_run 164 = .ok (.iload_n 3, 1) := by decide +kernel
theorem dX14_run_165 : decode cX14_run 165 = .ok (.aload_n 0, 1) := by decide +kernel
theorem dX14_run_166 : decode cX14_run 166 = .ok (.getfield 87, 3) := by decide +kernel
theorem dX14_run_169 : decode cX14_run 169 = .ok (.iload_n 3, 1) := by decide +kernel
theorem dX14_run_170 : decode cX14_run 170 = .ok (.iaload, 1) := by decide +kernel
theorem dX14_run_171 : decode cX14_run 171 = .ok (.iastore, 1) := by decide +kernel
theorem dX14_run_172 : decode cX14_run 172 = .ok (.iinc 3 1, 3) := by decide +kernel
theorem dX14_run_175 : decode cX14_run 175 = .ok (.goto (-21), 3) := by decide +kernel
theorem dX14_run_178 : decode cX14_run 178 = .ok (.iconst 0, 1) := by decide +kernel
theorem dX14_run_179 : decode cX14_run 179 = .ok (.istore_n 3, 1) := by decide +kernel
theorem dX14_run_180 : decode cX14_run 180 = .ok (.iload_n 3, 1) := by decide +kernel
theorem dX14_run_181 : decode cX14_run 181 = .ok (.bipush 15, 2) := by decide +kernel
theorem dX14_run_183 : decode cX14_run 183 = .ok (.if_icmp .ge 16, 3) := by decide +kernel
theorem dX14_run_186 : decode cX14_run 186 = .ok (.aload_n 0, 1) := by decide +kernel
theorem dX14_run_187 : decode cX14_run 187 = .ok (.getfield 114, 3) := by decide +kernel
theorem dX14_run_190 : decode cX14_run 190 = .ok (.iload_n 3, 1) := by decide +kernel
theorem dX14_run_191 : decode cX14_run 191 = .ok (.iconst 0, 1) := by decide +kernel
theorem dX14_run_192 : decode cX14_run 192 = .ok (.iastore, 1) := by decide +kernel
theorem dX14_run_193 : decode cX14_run 193 = .ok (.iinc 3 1, 3) := by decide +kernel
theorem dX14_run_196 : decode cX14_run 196 = .ok (.goto (-16), 3) := by decide +kernel
theorem dX14_run_199 : decode cX14_run 199 = .ok (.iconst 0, 1) := by decide +kernel
theorem dX14_run_200 : decode cX14_run 200 = .ok (.istore_n 3, 1) := by decide +kernel
theorem dX14_run_201 : decode cX14_run 201 = .ok (.iload_n 3, 1) := by decide +kernel
theorem dX14_run_202 : decode cX14_run 202 = .ok (.sipush 225, 3) := by decide +kernel
theorem dX14_run_205 : decode cX14_run 205 = .ok (.if_icmp .ge 16, 3) := by decide +kernel
theorem dX14_run_208 : decode cX14_run 208 = .ok (.aload_n 0, 1) := by decide +kernel
theorem dX14_run_209 : decode cX14_run 209 = .ok (.getfield 117, 3) := by decide +kernel
theorem dX14_run_212 : decode cX14_run 212 = .ok (.iload_n 3, 1) := by decide +kernel
theorem dX14_run_213 : decode cX14_run 213 = .ok (.iconst 0, 1) := by decide +kernel
theorem dX14_run_214 : decode cX14_run 214 = .ok (.iastore, 1) := by decide +kernel
theorem dX14_run_215 : decode cX14_run 215 = .ok (.iinc 3 1, 3) := by decide +kernel
theorem dX14_run_218 : decode cX14_run 218 = .ok (.goto (-17), 3) := by decide +kernel
theorem dX14_run_221 : decode cX14_run 221 = .ok (.iconst 0, 1) := by decide +kernel
theorem dX14_run_222 : decode cX14_run 222 = .ok (.istore_n 3, 1) := by decide +kernel
theorem dX14_run_223 : decode cX14_run 223 = .ok (.iload_n 3, 1) := by decide +kernel
theorem dX14_run_224 : decode cX14_run 224 = .ok (.aload_n 0, 1) := by decide +kernel
theorem dX14_run_225 : decode cX14_run 225 = .ok (.getfield 271, 3) := by decide +kernel
theorem dX14_run_228 : decode cX14_run 228 = .ok (.if_icmp .ge 79, 3) := by decide +kernel
theorem dX14_run_231 : decode cX14_run 231 = .ok (.aload_n 0, 1) := by decide +kernel
theorem dX14_run_232 : decode cX14_run 232 = .ok (.getfield 114, 3) := by decide +kernel
theorem dX14_run_235 : decode cX14_run 235 = .ok (.aload_n 0, 1) := by decide +kernel
theorem dX14_run_236 : decode cX14_run 236 = .ok (.getfield 16, 3) := by decide +kernel
theorem dX14_run_239 : decode cX14_run 239 = .ok (.getfield 201, 3) := by decide +kernel
theorem dX14_run_242 : decode cX14_run 242 = .ok (.aload_n 0, 1) := by decide +kernel
theorem dX14_run_243 : decode cX14_run 243 = .ok (.getfield 77, 3) := by decide +kernel
theorem dX14_run_246 : decode cX14_run 246 = .ok (.iload_n 3, 1) := by decide +kernel
theorem dX14_run_247 : decode cX14_run 247 = .ok (.iaload, 1) := by decide +kernel
theorem dX14_run_248 : decode cX14_run 248 = .ok (.iaload, 1) := by decide +kernel
theorem dX14_run_249 : decode cX14_run 249 = .ok (.dup2, 1) := by decide +kernel
theorem dX14_run_250 : decode cX14_run 250 = .ok (.iaload, 1) := by decide +kernel
theorem dX14_run_251 : decode cX14_run 251 = .ok (.iconst 1, 1) := by decide +kernel
theorem dX14_run_252 : decode cX14_run 252 = .ok (.iadd, 1) := by decide +kernel
theorem dX14_run_253 : decode cX14_run 253 = .ok (.iastore, 1) := by decide +kernel
theorem dX14_run_254 : decode cX14_run 254 = .ok (.iload_n 3, 1) := by decide +kernel
theorem dX14_run_255 : decode cX14_run 255 = .ok (.ifCond .le 46, 3) := by decide +kernel
theorem dX14_run_258 : decode cX14_run 258 = .ok (.aload_n 0, 1) := by decide +kernel
theorem dX14_run_259 : decode cX14_run 259 = .ok (.getfield 117, 3) := by decide +kernel
theorem dX14_run_262 : decode cX14_run 262 = .ok (.bipush 15, 2) := by decide +kernel
theorem dX14_run_264 : decode cX14_run 264 = .ok (.aload_n 0, 1) := by decide +kernel
theorem dX14_run_265 : decode cX14_run 265 = .ok (.getfield 16, 3) := by decide +kernel
theorem dX14_run_268 : decode cX14_run 268 = .ok (.getfield 201, 3) := by decide +kernel
theorem dX14_run_271 : decode cX14_run 271 = .ok (.aload_n 0, 1) := by decide +kernel
theorem dX14_run_272 : decode cX14_run 272 = .ok (.getfield 77, 3) := by decide +kernel
theorem dX14_run_275 : decode cX14_run 275 = .ok (.iload_n 3, 1) := by decide +kernel
theorem dX14_run_276 : decode cX14_run 276 = .ok (.iconst 1, 1) := by decide +kernel
theorem dX14_run_277 : decode cX14_run 277 = .ok (.isub, 1) := by decide +kernel
theorem dX14_run_278 : decode cX14_run 278 = .ok (.iaload, 1) := by decide +kernel
theorem dX14_run_279 : decode cX14_run 279 = .ok (.iaload, 1) := by decide +kernel
theorem dX14_run_280 : decode cX14_run 280 = .ok (.imul, 1) := by decide +kernel
theorem dX14_run_281 : decode cX14_run 281 = .ok (.aload_n 0, 1) := by decide +kernel
theorem dX14_run_282 : decode cX14_run 282 = .ok (.getfield 16, 3) := by decide +kernel
theorem dX14_run_285 : decode cX14_run 285 = .ok (.getfield 201, 3) := by decide +kernel
theorem dX14_run_288 : decode cX14_run 288 = .ok (.aload_n 0, 1) := by decide +kernel
theorem dX14_run_289 : decode cX14_run 289 = .ok (.getfield 77, 3) := by decide +kernel
theorem dX14_run_292 : decode cX14_run 292 = .ok (.iload_n 3, 1) := by decide +kernel
theorem dX14_run_293 : decode cX14_run 293 = .ok (.iaload, 1) := by decide +kernel
theorem dX14_run_294 : decode cX14_run 294 = .ok (.iaload, 1) := by decide +kernel
theorem dX14_run_295 : decode cX14_run 295 = .ok (.iadd, 1) := by decide +kernel
theorem dX14_run_296 : decode cX14_run 296 = .ok (.dup2, 1) := by decide +kernel
theorem dX14_run_297 : decode cX14_run 297 = .ok (.iaload, 1) := by decide +kernel
theorem dX14_run_298 : decode cX14_run 298 = .ok (.iconst 1, 1) := by decide +kernel
theorem dX14_run_299 : decode cX14_run 299 = .ok (.iadd, 1) := by decide +kernel
theorem dX14_run_300 : decode cX14_run 300 = .ok (.iastore, 1) := by decide +kernel
theorem dX14_run_301 : decode cX14_run 301 = .ok (.iinc 3 1, 3) := by decide +kernel
theorem dX14_run_304 : decode cX14_run 304 = .ok (.goto (-81), 3) := by decide +kernel
theorem dX14_run_307 : decode cX14_run 307 = .ok (.aload_n 0, 1) := by decide +kernel
theorem dX14_run_308 : decode cX14_run 308 = .ok (.iconst 0, 1) := by decide +kernel
theorem dX14_run_309 : decode cX14_run 309 = .ok (.putfield 347, 3) := by decide +kernel
theorem dX14_run_312 : decode cX14_run 312 = .ok (.iconst 0, 1) := by decide +kernel
theorem dX14_run_313 : decode cX14_run 313 = .ok (.istore_n 3, 1) := by decide +kernel
theorem dX14_run_314 : decode cX14_run 314 = .ok (.iload_n 3, 1) := by decide +kernel
theorem dX14_run_315 : decode cX14_run 315 = .ok (.bipush 100, 2) := by decide +kernel
theorem dX14_run_317 : decode cX14_run 317 = .ok (.if_icmp .gt 53, 3) := by decide +kernel
theorem dX14_run_320 : decode cX14_run 320 = .ok (.aload_n 0, 1) := by decide +kernel
theorem dX14_run_321 : decode cX14_run 321 = .ok (.getfield 120, 3) := by decide +kernel
theorem dX14_run_324 : decode cX14_run 324 = .ok (.iload_n 3, 1) := by decide +kernel
theorem dX14_run_325 : decode cX14_run 325 = .ok (.iload_n 1, 1) := by decide +kernel
theorem dX14_run_326 : decode cX14_run 326 = .ok (.iconst 4, 1) := by decide +kernel
theorem dX14_run_327 : decode cX14_run 327 = .ok (.if_icmp .ne 12, 3) := by decide +kernel
theorem dX14_run_330 : decode cX14_run 330 = .ok (.aload_n 0, 1) := by decide +kernel
theorem dX14_run_331 : decode cX14_run 331 = .ok (.getfield 93, 3) := by decide +kernel
theorem dX14_run_334 : decode cX14_run 334 = .ok (.iload_n 3, 1) := by decide +kernel
theorem dX14_run_335 : decode cX14_run 335 = .ok (.iaload, 1) := by decide +kernel
theorem dX14_run_336 : decode cX14_run 336 = .ok (.goto 4, 3) := by decide +kernel
theorem dX14_run_339 : decode cX14_run 339 = .ok (.iconst 0, 1) := by decide +kernel
theorem dX14_run_340 : decode cX14_run 340 = .ok (.iastore, 1) := by decide +kernel
theorem dX14_run_341 : decode cX14_run 341 = .ok (.aload_n 0, 1) := by decide +kernel
theorem dX14_run_342 : decode cX14_run 342 = .ok (.dup, 1) := by decide +kernel
theorem dX14_run_343 : decode cX14_run 343 = .ok (.getfield 347, 3) := by decide +kernel
theorem dX14_run_346 : decode cX14_run 346 = .ok (.aload_n 0, 1) := by decide +kernel
theorem dX14_run_347 : decode cX14_run 347 = .ok (.getfield 120, 3) := by decide +kernel
theorem dX14_run_350 : decode cX14_run 350 = .ok (.iload_n 3, 1) := by decide +kernel
theorem dX14_run_351 : decode cX14_run 351 = .ok (.iaload, 1) := by decide +kernel
theorem dX14_run_352 : decode cX14_run 352 = .ok (.ifCond .le 7, 3) := by decide +kernel
theorem dX14_run_355 : decode cX14_run 355 = .ok (.iconst 1, 1) := by decide +kernel
theorem dX14_run_356 : decode cX14_run 356 = .ok (.goto 4, 3) := by decide +kernel
theorem dX14_run_359 : decode cX14_run 359 = .ok (.iconst 0, 1) := by decide +kernel
theorem dX14_run_360 : decode cX14_run 360 = .ok (.iadd, 1) := by decide +kernel
theorem dX14_run_361 : decode cX14_run 361 = .ok (.putfield 347, 3) := by decide +kernel
theorem dX14_run_364 : decode cX14_run 364 = .ok (.iinc 3 1, 3) := by decide +kernel
theorem dX14_run_367 : decode cX14_run 367 = .ok (.goto (-53), 3) := by decide +kernel
theorem dX14_run_370 : decode cX14_run 370 = .ok (.aload_n 0, 1) := by decide +kernel
theorem dX14_run_371 : decode cX14_run 371 = .ok (.aload_n 0, 1) := by decide +kernel
theorem dX14_run_372 : decode cX14_run 372 = .ok (.getfield 280, 3) := by decide +kernel
theorem dX14_run_375 : decode cX14_run 375 = .ok (.invokevirtual 246, 3) := by decide +kernel
theorem dX14_run_378 : decode cX14_run 378 = .ok (.ireturn, 1) := by decide +kernel
theorem dX14_told_0 : decode cX14_told 0 = .ok (.aload_n 0, 1) := by decide +kernel
theorem dX14_told_1 : decode cX14_told 1 = .ok (.iconst 0, 1) := by decide +kernel
theorem dX14_told_2 : decode cX14_told 2 = .ok (.putfield 129, 3) := by decide +kernel
theorem dX14_told_5 : decode cX14_told 5 = .ok (.aload_n 0, 1) := by decide +kernel
theorem dX14_told_6 : decode cX14_told 6 = .ok (.getfield 317, 3) := by decide +kernel
theorem dX14_told_9 : decode cX14_told 9 = .ok (.ifCond .ne 9, 3) := by decide +kernel
theorem dX14_told_12 : decode cX14_told 12 = .ok (.aload_n 0, 1) := by decide +kernel
theorem dX14_told_13 : decode cX14_told 13 = .ok (.iconst 5, 1) := by decide +kernel
theorem dX14_told_14 : decode cX14_told 14 = .ok (.invokevirtual 234, 3) := by decide +kernel
theorem dX14_told_17 : decode cX14_told 17 = .ok (.ireturn, 1) := by decide +kernel
theorem dX14_told_18 : decode cX14_told 18 = .ok (.iload_n 1, 1) := by decide +kernel
theorem dX14_told_19 : decode cX14_told 19 = .ok (.tableswitch 91 0 5 #[37, 46, 55, 64, 73, 82], 37) := by decide +kernel
theorem dX14_told_56 : decode cX14_told 56 = .ok (.aload_n 0, 1) := by decide +kernel
theorem dX14_told_57 : decode cX14_told 57 = .ok (.aload_n 0, 1) := by decide +kernel
theorem dX14_told_58 : decode cX14_told 58 = .ok (.getfield 332, 3) := by decide +kernel
theorem dX14_told_61 : decode cX14_told 61 = .ok (.invokevirtual 246, 3) := by decide +kernel
theorem dX14_told_64 : decode cX14_told 64 = .ok (.ireturn, 1) := by decide +kernel
theorem dX14_told_65 : decode cX14_told 65 = .ok (.aload_n 0, 1) := by decide +kernel
theorem dX14_told_66 : decode cX14_told 66 = .ok (.aload_n 0, 1) := by decide +kernel
theorem dX14_told_67 : decode cX14_told 67 = .ok (.getfield 329, 3) := by decide +kernel
theorem dX14_told_70 : decode cX14_told 70 = .ok (.invokevirtual 246, 3) := by decide +kernel
theorem dX14_told_73 : decode cX14_told 73 = .ok (.ireturn, 1) := by decide +kernel
theorem dX14_told_74 : decode cX14_told 74 = .ok (.aload_n 0, 1) := by decide +kernel
theorem dX14_told_75 : decode cX14_told 75 = .ok (.aload_n 0, 1) := by decide +kernel
theorem dX14_told_76 : decode cX14_told 76 = .ok (.getfield 335, 3) := by decide +kernel
theorem dX14_told_79 : decode cX14_told 79 = .ok (.invokevirtual 246, 3) := by decide +kernel
theorem dX14_told_82 : decode cX14_told 82 = .ok (.ireturn, 1) := by decide +kernel
theorem dX14_told_83 : decode cX14_told 83 = .ok (.aload_n 0, 1) := by decide +kernel
theorem dX14_told_84 : decode cX14_told 84 = .ok (.aload_n 0, 1) := by decide +kernel
theorem dX14_told_85 : decode cX14_told 85 = .ok (.getfield 338, 3) := by decide +kernel
theorem dX14_told_88 : decode cX14_told 88 = .ok (.invokevirtual 246, 3) := by decide +kernel
theorem dX14_told_91 : decode cX14_told 91 = .ok (.ireturn, 1) := by decide +kernel
theorem dX14_told_92 : decode cX14_told 92 = .ok (.aload_n 0, 1) := by decide +kernel
theorem dX14_told_93 : decode cX14_told 93 = .ok (.aload_n 0, 1) := by decide +kernel
theorem dX14_told_94 : decode cX14_told 94 = .ok (.getfield 341, 3) := by decide +kernel
theorem dX14_told_97 : decode cX14_told 97 = .ok (.invokevirtual 246, 3) := by decide +kernel
theorem dX14_told_100 : decode cX14_told 100 = .ok (.ireturn, 1) := by decide +kernel
theorem dX14_told_101 : decode cX14_told 101 = .ok (.aload_n 0, 1) := by decide +kernel
theorem dX14_told_102 : decode cX14_told 102 = .ok (.aload_n 0, 1) := by decide +kernel
theorem dX14_told_103 : decode cX14_told 103 = .ok (.getfield 344, 3) := by decide +kernel
theorem dX14_told_106 : decode cX14_told 106 = .ok (.invokevirtual 246, 3) := by decide +kernel
theorem dX14_told_109 : decode cX14_told 109 = .ok (.ireturn, 1) := by decide +kernel
theorem dX14_told_110 : decode cX14_told 110 = .ok (.aload_n 0, 1) := by decide +kernel
theorem dX14_told_111 : decode cX14_told 111 = .ok (.iconst 1, 1) := by decide +kernel
theorem dX14_told_112 : decode cX14_told 112 = .ok (.invokevirtual 234, 3) := by decide +kernel
theorem dX14_told_115 : decode cX14_told 115 = .ok (.ireturn, 1) := by decide +kernel
theorem dX14_out_0 : decode cX14_out 0 = .ok (.aload_n 0, 1) := by decide +kernel
theorem dX14_out_1 : decode cX14_out 1 = .ok (.aload_n 0, 1) := by decide +kernel
theorem dX14_out_2 : decode cX14_out 2 = .ok (.getfield 317, 3) := by decide +kernel
theorem dX14_out_5 : decode cX14_out 5 = .ok (.ifCond .eq 20, 3) := by decide +kernel
theorem dX14_out_8 : decode cX14_out 8 = .ok (.iload_n 1, 1) := by decide +kernel
theorem dX14_out_9 : decode cX14_out 9 = .ok (.ifCond .lt 16, 3) := by decide +kernel
theorem dX14_out_12 : decode cX14_out 12 = .ok (.iload_n 1, 1) := by decide +kernel
theorem dX14_out_13 : decode cX14_out 13 = .ok (.aload_n 0, 1) := by decide +kernel
theorem dX14_out_14 : decode cX14_out 14 = .ok (.getfield 338, 3) := by decide +kernel
theorem dX14_out_17 : decode cX14_out 17 = .ok (.bipush 60, 2) := by decide +kernel
theorem dX14_out_19 : decode cX14_out 19 = .ok (.invokestatic 350, 3) := by decide +kernel
theorem dX14_out_22 : decode cX14_out 22 = .ok (.if_icmp .lt 7, 3) := by decide +kernel
theorem dX14_out_25 : decode cX14_out 25 = .ok (.iconst 1, 1) := by decide +kernel
theorem dX14_out_26 : decode cX14_out 26 = .ok (.goto 4, 3) := by decide +kernel
theorem dX14_out_29 : decode cX14_out 29 = .ok (.iconst 0, 1) := by decide +kernel
theorem dX14_out_30 : decode cX14_out 30 = .ok (.putfield 129, 3) := by decide +kernel
theorem dX14_out_33 : decode cX14_out 33 = .ok (.aload_n 0, 1) := by decide +kernel
theorem dX14_out_34 : decode cX14_out 34 = .ok (.getfield 129, 3) := by decide +kernel
theorem dX14_out_37 : decode cX14_out 37 = .ok (.ifCond .le 7, 3) := by decide +kernel
theorem dX14_out_40 : decode cX14_out 40 = .ok (.iconst 0, 1) := by decide +kernel
theorem dX14_out_41 : decode cX14_out 41 = .ok (.goto 9, 3) := by decide +kernel
theorem dX14_out_44 : decode cX14_out 44 = .ok (.aload_n 0, 1) := by decide +kernel
theorem dX14_out_45 : decode cX14_out 45 = .ok (.getfield 111, 3) := by decide +kernel
theorem dX14_out_48 : decode cX14_out 48 = .ok (.iload_n 1, 1) := by decide +kernel
theorem dX14_out_49 : decode cX14_out 49 = .ok (.iaload, 1) := by decide +kernel
theorem dX14_out_50 : decode cX14_out 50 = .ok (.ireturn, 1) := by decide +kernel
theorem dX14_pile_0 : decode cX14_pile 0 = .ok (.aload_n 0, 1) := by decide +kernel
theorem dX14_pile_1 : decode cX14_pile 1 = .ok (.aload_n 0, 1) := by decide +kernel
theorem dX14_pile_2 : decode cX14_pile 2 = .ok (.getfield 317, 3) := by decide +kernel
theorem dX14_pile_5 : decode cX14_pile 5 = .ok (.ifCond .eq 15, 3) := by decide +kernel
theorem dX14_pile_8 : decode cX14_pile 8 = .ok (.iload_n 1, 1) := by decide +kernel
theorem dX14_pile_9 : decode cX14_pile 9 = .ok (.ifCond .lt 11, 3) := by decide +kernel
