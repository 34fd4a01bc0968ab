theorem dX9_kindOfWord_10 : decode cX9_kindOfWord 10 = .ok (.aload_n 0, 1) := by decide +kernel
theorem dX9_kindOfWord_11 : decode cX9_kindOfWord 11 = .ok (.getstatic 110, 3) := by decide +kernel
theorem dX9_kindOfWord_14 : decode cX9_kindOfWord 14 = .ok (.iload_n 1, 1) := by decide +kernel
theorem dX9_kindOfWord_15 : decode cX9_kindOfWord 15 = .ok (.aaload, 1) := by decide +kernel
theorem dX9_kindOfWord_16 : decode cX9_kindOfWord 16 = .ok (.getfield 146, 3) := by decide +kernel
theorem dX9_kindOfWord_19 : decode cX9_kindOfWord 19 = .ok (.invokevirtual 150, 3) := by decide +kernel
theorem dX9_kindOfWord_22 : decode cX9_kindOfWord 22 = .ok (.ifCond .eq 5, 3) := by decide +kernel
theorem dX9_kindOfWord_25 : decode cX9_kindOfWord 25 = .ok (.iload_n 1, 1) := by decide +kernel
theorem dX9_kindOfWord_26 : decode cX9_kindOfWord 26 = .ok (.ireturn, 1) := by decide +kernel
theorem dX9_kindOfWord_27 : decode cX9_kindOfWord 27 = .ok (.iinc 1 1, 3) := by decide +kernel
theorem dX9_kindOfWord_30 : decode cX9_kindOfWord 30 = .ok (.goto (-28), 3) := by decide +kernel
theorem dX9_kindOfWord_33 : decode cX9_kindOfWord 33 = .ok (.iconst (-1), 1) := by decide +kernel
theorem dX9_kindOfWord_34 : decode cX9_kindOfWord 34 = .ok (.ireturn, 1) := by decide +kernel
theorem dX9_wordIs_0 : decode cX9_wordIs 0 = .ok (.aload_n 1, 1) := by decide +kernel
theorem dX9_wordIs_1 : decode cX9_wordIs 1 = .ok (.invokevirtual 154, 3) := by decide +kernel
theorem dX9_wordIs_4 : decode cX9_wordIs 4 = .ok (.aload_n 0, 1) := by decide +kernel
theorem dX9_wordIs_5 : decode cX9_wordIs 5 = .ok (.getfield 43, 3) := by decide +kernel
theorem dX9_wordIs_8 : decode cX9_wordIs 8 = .ok (.aload_n 0, 1) := by decide +kernel
theorem dX9_wordIs_9 : decode cX9_wordIs 9 = .ok (.getfield 40, 3) := by decide +kernel
theorem dX9_wordIs_12 : decode cX9_wordIs 12 = .ok (.isub, 1) := by decide +kernel
theorem dX9_wordIs_13 : decode cX9_wordIs 13 = .ok (.if_icmp .eq 5, 3) := by decide +kernel
theorem dX9_wordIs_16 : decode cX9_wordIs 16 = .ok (.iconst 0, 1) := by decide +kernel
theorem dX9_wordIs_17 : decode cX9_wordIs 17 = .ok (.ireturn, 1) := by decide +kernel
theorem dX9_wordIs_18 : decode cX9_wordIs 18 = .ok (.iconst 0, 1) := by decide +kernel
theorem dX9_wordIs_19 : decode cX9_wordIs 19 = .ok (.istore_n 2, 1) := by decide +kernel
theorem dX9_wordIs_20 : decode cX9_wordIs 20 = .ok (.iload_n 2, 1) := by decide +kernel
theorem dX9_wordIs_21 : decode cX9_wordIs 21 = .ok (.aload_n 1, 1) := by decide +kernel
theorem dX9_wordIs_22 : decode cX9_wordIs 22 = .ok (.invokevirtual 154, 3) := by decide +kernel
theorem dX9_wordIs_25 : decode cX9_wordIs 25 = .ok (.if_icmp .ge 29, 3) := by decide +kernel
theorem dX9_wordIs_28 : decode cX9_wordIs 28 = .ok (.aload_n 0, 1) := by decide +kernel
theorem dX9_wordIs_29 : decode cX9_wordIs 29 = .ok (.aload_n 0, 1) := by decide +kernel
theorem dX9_wordIs_30 : decode cX9_wordIs 30 = .ok (.getfield 40, 3) := by decide +kernel
theorem dX9_wordIs_33 : decode cX9_wordIs 33 = .ok (.iload_n 2, 1) := by decide +kernel
theorem dX9_wordIs_34 : decode cX9_wordIs 34 = .ok (.iadd, 1) := by decide +kernel
theorem dX9_wordIs_35 : decode cX9_wordIs 35 = .ok (.invokevirtual 142, 3) := by decide +kernel
theorem dX9_wordIs_38 : decode cX9_wordIs 38 = .ok (.aload_n 1, 1) := by decide +kernel
theorem dX9_wordIs_39 : decode cX9_wordIs 39 = .ok (.iload_n 2, 1) := by decide +kernel
theorem dX9_wordIs_40 : decode cX9_wordIs 40 = .ok (.invokevirtual 158, 3) := by decide +kernel
theorem dX9_wordIs_43 : decode cX9_wordIs 43 = .ok (.if_icmp .eq 5, 3) := by decide +kernel
theorem dX9_wordIs_46 : decode cX9_wordIs 46 = .ok (.iconst 0, 1) := by decide +kernel
theorem dX9_wordIs_47 : decode cX9_wordIs 47 = .ok (.ireturn, 1) := by decide +kernel
theorem dX9_wordIs_48 : decode cX9_wordIs 48 = .ok (.iinc 2 1, 3) := by decide +kernel
theorem dX9_wordIs_51 : decode cX9_wordIs 51 = .ok (.goto (-31), 3) := by decide +kernel
theorem dX9_wordIs_54 : decode cX9_wordIs 54 = .ok (.iconst 1, 1) := by decide +kernel
theorem dX9_wordIs_55 : decode cX9_wordIs 55 = .ok (.ireturn, 1) := by decide +kernel
theorem dX9_tokenNumber_0 : decode cX9_tokenNumber 0 = .ok (.iconst 0, 1) := by decide +kernel
theorem dX9_tokenNumber_1 : decode cX9_tokenNumber 1 = .ok (.istore_n 1, 1) := by decide +kernel
theorem dX9_tokenNumber_2 : decode cX9_tokenNumber 2 = .ok (.aload_n 0, 1) := by decide +kernel
theorem dX9_tokenNumber_3 : decode cX9_tokenNumber 3 = .ok (.getfield 34, 3) := by decide +kernel
theorem dX9_tokenNumber_6 : decode cX9_tokenNumber 6 = .ok (.istore_n 2, 1) := by decide +kernel
theorem dX9_tokenNumber_7 : decode cX9_tokenNumber 7 = .ok (.iload_n 2, 1) := by decide +kernel
theorem dX9_tokenNumber_8 : decode cX9_tokenNumber 8 = .ok (.aload_n 0, 1) := by decide +kernel
theorem dX9_tokenNumber_9 : decode cX9_tokenNumber 9 = .ok (.getfield 37, 3) := by decide +kernel
theorem dX9_tokenNumber_12 : decode cX9_tokenNumber 12 = .ok (.if_icmp .ge 23, 3) := by decide +kernel
theorem dX9_tokenNumber_15 : decode cX9_tokenNumber 15 = .ok (.iload_n 1, 1) := by decide +kernel
theorem dX9_tokenNumber_16 : decode cX9_tokenNumber 16 = .ok (.bipush 10, 2) := by decide +kernel
theorem dX9_tokenNumber_18 : decode cX9_tokenNumber 18 = .ok (.imul, 1) := by decide +kernel
theorem dX9_tokenNumber_19 : decode cX9_tokenNumber 19 = .ok (.aload_n 0, 1) := by decide +kernel
theorem dX9_tokenNumber_20 : decode cX9_tokenNumber 20 = .ok (.iload_n 2, 1) := by decide +kernel
theorem dX9_tokenNumber_21 : decode cX9_tokenNumber 21 = .ok (.invokevirtual 142, 3) := by decide +kernel
theorem dX9_tokenNumber_24 : decode cX9_tokenNumber 24 = .ok (.iadd, 1) := by decide +kernel
theorem dX9_tokenNumber_25 : decode cX9_tokenNumber 25 = .ok (.bipush 48, 2) := by decide +kernel
theorem dX9_tokenNumber_27 : decode cX9_tokenNumber 27 = .ok (.isub, 1) := by decide +kernel
theorem dX9_tokenNumber_28 : decode cX9_tokenNumber 28 = .ok (.istore_n 1, 1) := by decide +kernel
theorem dX9_tokenNumber_29 : decode cX9_tokenNumber 29 = .ok (.iinc 2 1, 3) := by decide +kernel
theorem dX9_tokenNumber_32 : decode cX9_tokenNumber 32 = .ok (.goto (-25), 3) := by decide +kernel
theorem dX9_tokenNumber_35 : decode cX9_tokenNumber 35 = .ok (.iload_n 1, 1) := by decide +kernel
theorem dX9_tokenNumber_36 : decode cX9_tokenNumber 36 = .ok (.ireturn, 1) := by decide +kernel
theorem dX9_byteAt_0 : decode cX9_byteAt 0 = .ok (.iload_n 1, 1) := by decide +kernel
theorem dX9_byteAt_1 : decode cX9_byteAt 1 = .ok (.ifCond .lt 27, 3) := by decide +kernel
theorem dX9_byteAt_4 : decode cX9_byteAt 4 = .ok (.iload_n 1, 1) := by decide +kernel
theorem dX9_byteAt_5 : decode cX9_byteAt 5 = .ok (.aload_n 0, 1) := by decide +kernel
theorem dX9_byteAt_6 : decode cX9_byteAt 6 = .ok (.getfield 27, 3) := by decide +kernel
theorem dX9_byteAt_9 : decode cX9_byteAt 9 = .ok (.if_icmp .ge 19, 3) := by decide +kernel
theorem dX9_byteAt_12 : decode cX9_byteAt 12 = .ok (.iload_n 1, 1) := by decide +kernel
theorem dX9_byteAt_13 : decode cX9_byteAt 13 = .ok (.sipush 600, 3) := by decide +kernel
theorem dX9_byteAt_16 : decode cX9_byteAt 16 = .ok (.if_icmp .ge 12, 3) := by decide +kernel
theorem dX9_byteAt_19 : decode cX9_byteAt 19 = .ok (.aload_n 0, 1) := by decide +kernel
theorem dX9_byteAt_20 : decode cX9_byteAt 20 = .ok (.getfield 9, 3) := by decide +kernel
theorem dX9_byteAt_23 : decode cX9_byteAt 23 = .ok (.iload_n 1, 1) := by decide +kernel
theorem dX9_byteAt_24 : decode cX9_byteAt 24 = .ok (.iaload, 1) := by decide +kernel
theorem dX9_byteAt_25 : decode cX9_byteAt 25 = .ok (.goto 4, 3) := by decide +kernel
theorem dX9_byteAt_28 : decode cX9_byteAt 28 = .ok (.iconst (-1), 1) := by decide +kernel
theorem dX9_byteAt_29 : decode cX9_byteAt 29 = .ok (.ireturn, 1) := by decide +kernel
theorem dX9_advance_0 : decode cX9_advance 0 = .ok (.aload_n 0, 1) := by decide +kernel
theorem dX9_advance_1 : decode cX9_advance 1 = .ok (.getfield 37, 3) := by decide +kernel
theorem dX9_advance_4 : decode cX9_advance 4 = .ok (.istore_n 1, 1) := by decide +kernel
theorem dX9_advance_5 : decode cX9_advance 5 = .ok (.iload_n 1, 1) := by decide +kernel
theorem dX9_advance_6 : decode cX9_advance 6 = .ok (.aload_n 0, 1) := by decide +kernel
theorem dX9_advance_7 : decode cX9_advance 7 = .ok (.getfield 27, 3) := by decide +kernel
theorem dX9_advance_10 : decode cX9_advance 10 = .ok (.if_icmp .ge 20, 3) := by decide +kernel
theorem dX9_advance_13 : decode cX9_advance 13 = .ok (.aload_n 0, 1) := by decide +kernel
theorem dX9_advance_14 : decode cX9_advance 14 = .ok (.iload_n 1, 1) := by decide +kernel
theorem dX9_advance_15 : decode cX9_advance 15 = .ok (.invokevirtual 142, 3) := by decide +kernel
theorem dX9_advance_18 : decode cX9_advance 18 = .ok (.invokestatic 162, 3) := by decide +kernel
theorem dX9_advance_21 : decode cX9_advance 21 = .ok (.ifCond .eq 9, 3) := by decide +kernel
theorem dX9_advance_24 : decode cX9_advance 24 = .ok (.iinc 1 1, 3) := by decide +kernel
theorem dX9_advance_27 : decode cX9_advance 27 = .ok (.goto (-22), 3) := by decide +kernel
theorem dX9_advance_30 : decode cX9_advance 30 = .ok (.aload_n 0, 1) := by decide +kernel
theorem dX9_advance_31 : decode cX9_advance 31 = .ok (.iload_n 1, 1) := by decide +kernel
theorem dX9_advance_32 : decode cX9_advance 32 = .ok (.putfield 34, 3) := by decide +kernel
theorem dX9_advance_35 : decode cX9_advance 35 = .ok (.aload_n 0, 1) := by decide +kernel
theorem dX9_advance_36 : decode cX9_advance 36 = .ok (.iload_n 1, 1) := by decide +kernel
theorem dX9_advance_37 : decode cX9_advance 37 = .ok (.iconst 1, 1) := by decide +kernel
theorem dX9_advance_38 : decode cX9_advance 38 = .ok (.iadd, 1) := by decide +kernel
theorem dX9_advance_39 : decode cX9_advance 39 = .ok (.putfield 37, 3) := by decide +kernel
theorem dX9_advance_42 : decode cX9_advance 42 = .ok (.aload_n 0, 1) := by decide +kernel
theorem dX9_advance_43 : decode cX9_advance 43 = .ok (.iload_n 1, 1) := by decide +kernel
theorem dX9_advance_44 : decode cX9_advance 44 = .ok (.invokevirtual 142, 3) := by decide +kernel
theorem dX9_advance_47 : decode cX9_advance 47 = .ok (.istore_n 2, 1) := by decide +kernel
theorem dX9_advance_48 : decode cX9_advance 48 = .ok (.iload_n 1, 1) := by decide +kernel
theorem dX9_advance_49 : decode cX9_advance 49 = .ok (.aload_n 0, 1) := by decide +kernel
theorem dX9_advance_50 : decode cX9_advance 50 = .ok (.getfield 27, 3) := by decide +kernel
theorem dX9_advance_53 : decode cX9_advance 53 = .ok (.if_icmp .lt 16, 3) := by decide +kernel
theorem dX9_advance_56 : decode cX9_advance 56 = .ok (.aload_n 0, 1) := by decide +kernel
theorem dX9_advance_57 : decode cX9_advance 57 = .ok (.iconst 5, 1) := by decide +kernel
theorem dX9_advance_58 : decode cX9_advance 58 = .ok (.putfield 31, 3) := by decide +kernel
theorem dX9_advance_61 : decode cX9_advance 61 = .ok (.aload_n 0, 1) := by decide +kernel
theorem dX9_advance_62 : decode cX9_advance 62 = .ok (.iload_n 1, 1) := by decide +kernel
theorem dX9_advance_63 : decode cX9_advance 63 = .ok (.putfield 37, 3) := by decide +kernel
theorem dX9_advance_66 : decode cX9_advance 66 = .ok (.goto 173, 3) := by decide +kernel
theorem dX9_advance_69 : decode cX9_advance 69 = .ok (.iload_n 2, 1) := by decide +kernel
theorem dX9_advance_70 : decode cX9_advance 70 = .ok (.invokestatic 166, 3) := by decide +kernel
theorem dX9_advance_73 : decode cX9_advance 73 = .ok (.ifCond .eq 67, 3) := by decide +kernel
theorem dX9_advance_76 : decode cX9_advance 76 = .ok (.aload_n 0, 1) := by decide +kernel
theorem dX9_advance_77 : decode cX9_advance 77 = .ok (.getfield 37, 3) := by decide +kernel
theorem dX9_advance_80 : decode cX9_advance 80 = .ok (.aload_n 0, 1) := by decide +kernel
theorem dX9_advance_81 : decode cX9_advance 81 = .ok (.getfield 27, 3) := by decide +kernel
theorem dX9_advance_84 : decode cX9_advance 84 = .ok (.if_icmp .ge 30, 3) := by decide +kernel
theorem dX9_advance_87 : decode cX9_advance 87 = .ok (.aload_n 0, 1) := by decide +kernel
theorem dX9_advance_88 : decode cX9_advance 88 = .ok (.aload_n 0, 1) := by decide +kernel
theorem dX9_advance_89 : decode cX9_advance 89 = .ok (.getfield 37, 3) := by decide +kernel
theorem dX9_advance_92 : decode cX9_advance 92 = .ok (.invokevirtual 142, 3) := by decide +kernel
theorem dX9_advance_95 : decode cX9_advance 95 = .ok (.invokestatic 166, 3) := by decide +kernel
theorem dX9_advance_98 : decode cX9_advance 98 = .ok (.ifCond .eq 16, 3) := by decide +kernel
theorem dX9_advance_101 : decode cX9_advance 101 = .ok (.aload_n 0, 1) := by decide +kernel
theorem dX9_advance_102 : decode cX9_advance 102 = .ok (.dup, 1) := by decide +kernel
theorem dX9_advance_103 : decode cX9_advance 103 = .ok (.getfield 37, 3) := by decide +kernel
theorem dX9_advance_106 : decode cX9_advance 106 = .ok (.iconst 1, 1) := by decide +kernel
theorem dX9_advance_107 : decode cX9_advance 107 = .ok (.iadd, 1) := by decide +kernel
theorem dX9_advance_108 : decode cX9_advance 108 = .ok (.putfield 37, 3) := by decide +kernel
theorem dX9_advance_111 : decode cX9_advance 111 = .ok (.goto (-35), 3) := by decide +kernel
theorem dX9_advance_114 : decode cX9_advance 114 = .ok (.aload_n 0, 1) := by decide +kernel
theorem dX9_advance_115 : decode cX9_advance 115 = .ok (.aload_n 0, 1) := by decide +kernel
theorem dX9_advance_116 : decode cX9_advance 116 = .ok (.getfield 37, 3) := by decide +kernel
theorem dX9_advance_119 : decode cX9_advance 119 = .ok (.aload_n 0, 1) := by decide +kernel
theorem dX9_advance_120 : decode cX9_advance 120 = .ok (.getfield 34, 3) := by decide +kernel
theorem dX9_advance_123 : decode cX9_advance 123 = .ok (.isub, 1) := by decide +kernel
theorem dX9_advance_124 : decode cX9_advance 124 = .ok (.bipush 8, 2) := by decide +kernel
theorem dX9_advance_126 : decode cX9_advance 126 = .ok (.if_icmp .gt 7, 3) := by decide +kernel
theorem dX9_advance_129 : decode cX9_advance 129 = .ok (.iconst 1, 1) := by decide +kernel
theorem dX9_advance_130 : decode cX9_advance 130 = .ok (.goto 4, 3) := by decide +kernel
theorem dX9_advance_133 : decode cX9_advance 133 = .ok (.iconst 0, 1) := by decide +kernel
theorem dX9_advance_134 : decode cX9_advance 134 = .ok (.putfield 31, 3) := by decide +kernel
theorem dX9_advance_137 : decode cX9_advance 137 = .ok (.goto 102, 3) := by decide +kernel
theorem dX9_advance_140 : decode cX9_advance 140 = .ok (.iload_n 2, 1) := by decide +kernel
theorem dX9_advance_141 : decode cX9_advance 141 = .ok (.invokestatic 169, 3) := by decide +kernel
theorem dX9_advance_144 : decode cX9_advance 144 = .ok (.ifCond .eq 66, 3) := by decide +kernel
theorem dX9_advance_147 : decode cX9_advance 147 = .ok (.aload_n 0, 1) := by decide +kernel
theorem dX9_advance_148 : decode cX9_advance 148 = .ok (.getfield 37, 3) := by decide +kernel
theorem dX9_advance_151 : decode cX9_advance 151 = .ok (.aload_n 0, 1) := by decide +kernel
theorem dX9_advance_152 : decode cX9_advance 152 = .ok (.getfield 27, 3) := by decide +kernel
theorem dX9_advance_155 : decode cX9_advance 155 = .ok (.if_icmp .ge 30, 3) := by decide +kernel
theorem dX9_advance_158 : decode cX9_advance 158 = .ok (.aload_n 0, 1) := by decide +kernel
theorem dX9_advance_159 : decode cX9_advance 159 = .ok (.aload_n 0, 1) := by decide +kernel
theorem dX9_advance_160 : decode cX9_advance 160 = .ok (.getfield 37, 3) := by decide +kernel
theorem dX9_advance_163 : decode cX9_advance 163 = .ok (.invokevirtual 142, 3) := by decide +kernel
theorem dX9_advance_166 : decode cX9_advance 166 = .ok (.invokestatic 169, 3) := by decide +kernel
theorem dX9_advance_169 : decode cX9_advance 169 = .ok (.ifCond .eq 16, 3) := by decide +kernel
theorem dX9_advance_172 : decode cX9_advance 172 = .ok (.aload_n 0, 1) := by decide +kernel
theorem dX9_advance_173 : decode cX9_advance 173 = .ok (.dup, 1) := by decide +kernel
theorem dX9_advance_174 : decode cX9_advance 174 = .ok (.getfield 37, 3) := by decide +kernel
theorem dX9_advance_177 : decode cX9_advance 177 = .ok (.iconst 1, 1) := by decide +kernel
theorem dX9_advance_178 : decode cX9_advance 178 = .ok (.iadd, 1) := by decide +kernel
theorem dX9_advance_179 : decode cX9_advance 179 = .ok (.putfield 37, 3) := by decide +kernel
theorem dX9_advance_182 : decode cX9_advance 182 = .ok (.goto (-35), 3) := by decide +kernel
theorem dX9_advance_185 : decode cX9_advance 185 = .ok (.aload_n 0, 1) := by decide +kernel
theorem dX9_advance_186 : decode cX9_advance 186 = .ok (.aload_n 0, 1) := by decide +kernel
theorem dX9_advance_187 : decode cX9_advance 187 = .ok (.getfield 37, 3) := by decide +kernel
theorem dX9_advance_190 : decode cX9_advance 190 = .ok (.aload_n 0, 1) := by decide +kernel
theorem dX9_advance_191 : decode cX9_advance 191 = .ok (.getfield 34, 3) := by decide +kernel
theorem dX9_advance_194 : decode cX9_advance 194 = .ok (.isub, 1) := by decide +kernel
theorem dX9_advance_195 : decode cX9_advance 195 = .ok (.iconst 3, 1) := by decide +kernel
theorem dX9_advance_196 : decode cX9_advance 196 = .ok (.if_icmp .gt 7, 3) := by decide +kernel
theorem dX9_advance_199 : decode cX9_advance 199 = .ok (.iconst 2, 1) := by decide +kernel
theorem dX9_advance_200 : decode cX9_advance 200 = .ok (.goto 4, 3) := by decide +kernel
theorem dX9_advance_203 : decode cX9_advance 203 = .ok (.iconst 0, 1) := by decide +kernel
theorem dX9_advance_204 : decode cX9_advance 204 = .ok (.putfield 31, 3) := by decide +kernel
theorem dX9_advance_207 : decode cX9_advance 207 = .ok (.goto 32, 3) := by decide +kernel
theorem dX9_advance_210 : decode cX9_advance 210 = .ok (.iload_n 2, 1) := by decide +kernel
theorem dX9_advance_211 : decode cX9_advance 211 = .ok (.bipush 58, 2) := by decide +kernel
theorem dX9_advance_213 : decode cX9_advance 213 = .ok (.if_icmp .ne 11, 3) := by decide +kernel
theorem dX9_advance_216 : decode cX9_advance 216 = .ok (.aload_n 0, 1) := by decide +kernel
theorem dX9_advance_217 : decode cX9_advance 217 = .ok (.iconst 3, 1) := by decide +kernel
theorem dX9_advance_218 : decode cX9_advance 218 = .ok (.putfield 31, 3) := by decide +kernel
theorem dX9_advance_221 : decode cX9_advance 221 = .ok (.goto 18, 3) := by decide +kernel
theorem dX9_advance_224 : decode cX9_advance 224 = .ok (.aload_n 0, 1) := by decide +kernel
theorem dX9_advance_225 : decode cX9_advance 225 = .ok (.iload_n 2, 1) := by decide +kernel
theorem dX9_advance_226 : decode cX9_advance 226 = .ok (.bipush 59, 2) := by decide +kernel
theorem dX9_advance_228 : decode cX9_advance 228 = .ok (.if_icmp .ne 7, 3) := by decide +kernel
theorem dX9_advance_231 : decode cX9_advance 231 = .ok (.iconst 4, 1) := by decide +kernel
theorem dX9_advance_232 : decode cX9_advance 232 = .ok (.goto 4, 3) := by decide +kernel
theorem dX9_advance_235 : decode cX9_advance 235 = .ok (.iconst 0, 1) := by decide +kernel
theorem dX9_advance_236 : decode cX9_advance 236 = .ok (.putfield 31, 3) := by decide +kernel
theorem dX9_advance_239 : decode cX9_advance 239 = .ok (.return_, 1) := by decide +kernel
theorem dX9_isBlank_0 : decode cX9_isBlank 0 = .ok (.iload_n 0, 1) := by decide +kernel
theorem dX9_isBlank_1 : decode cX9_isBlank 1 = .ok (.bipush 32, 2) := by decide +kernel
theorem dX9_isBlank_3 : decode cX9_isBlank 3 = .ok (.if_icmp .eq 9, 3) := by decide +kernel
theorem dX9_isBlank_6 : decode cX9_isBlank 6 = .ok (.iload_n 0, 1) := by decide +kernel
theorem dX9_isBlank_7 : decode cX9_isBlank 7 = .ok (.bipush 10, 2) := by decide +kernel
theorem dX9_isBlank_9 : decode cX9_isBlank 9 = .ok (.if_icmp .ne 7, 3) := by decide +kernel
theorem dX9_isBlank_12 : decode cX9_isBlank 12 = .ok (.iconst 1, 1) := by decide +kernel
theorem dX9_isBlank_13 : decode cX9_isBlank 13 = .ok (.goto 4, 3) := by decide +kernel
theorem dX9_isBlank_16 : decode cX9_isBlank 16 = .ok (.iconst 0, 1) := by decide +kernel
theorem dX9_isBlank_17 : decode cX9_isBlank 17 = .ok (.ireturn, 1) := by decide +kernel
theorem dX9_isLetter_0 : decode cX9_isLetter 0 = .ok (.iload_n 0, 1) := by decide +kernel
theorem dX9_isLetter_1 : decode cX9_isLetter 1 = .ok (.bipush 97, 2) := by decide +kernel
theorem dX9_isLetter_3 : decode cX9_isLetter 3 = .ok (.if_icmp .lt 13, 3) := by decide +kernel
theorem dX9_isLetter_6 : decode cX9_isLetter 6 = .ok (.iload_n 0, 1) := by decide +kernel
theorem dX9_isLetter_7 : decode cX9_isLetter 7 = .ok (.bipush 122, 2) := by decide +kernel
theorem dX9_isLetter_9 : decode cX9_isLetter 9 = .ok (.if_icmp .gt 7, 3) := by decide +kernel
theorem dX9_isLetter_12 : decode cX9_isLetter 12 = .ok (.iconst 1, 1) := by decide +kernel
theorem dX9_isLetter_13 : decode cX9_isLetter 13 = .ok (.goto 4, 3) := by decide +kernel
theorem dX9_isLetter_16 : decode cX9_isLetter 16 = .ok (.iconst 0, 1) := by decide +kernel
theorem dX9_isLetter_17 : decode cX9_isLetter 17 = .ok (.ireturn, 1) := by decide +kernel
theorem dX9_isDigit_0 : decode cX9_isDigit 0 = .ok (.iload_n 0, 1) := by decide +kernel
theorem dX9_isDigit_1 : decode cX9_isDigit 1 = .ok (.bipush 48, 2) := by decide +kernel
theorem dX9_isDigit_3 : decode cX9_isDigit 3 = .ok (.if_icmp .lt 13, 3) := by decide +kernel
theorem dX9_isDigit_6 : decode cX9_isDigit 6 = .ok (.iload_n 0, 1) := by decide +kernel
theorem dX9_isDigit_7 : decode cX9_isDigit 7 = .ok (.bipush 57, 2) := by decide +kernel
theorem dX9_isDigit_9 : decode cX9_isDigit 9 = .ok (.if_icmp .gt 7, 3) := by decide +kernel
theorem dX9_isDigit_12 : decode cX9_isDigit 12 = .ok (.iconst 1, 1) := by decide +kernel
theorem dX9_isDigit_13 : decode cX9_isDigit 13 = .ok (.goto 4, 3) := by decide +kernel
theorem dX9_isDigit_16 : decode cX9_isDigit 16 = .ok (.iconst 0, 1) := by decide +kernel
theorem dX9_isDigit_17 : decode cX9_isDigit 17 = .ok (.ireturn, 1) := by decide +kernel
theorem dX10_init_0 : decode cX10_init 0 = .ok (.aload_n 0, 1) := by decide +kernel
theorem dX10_init_1 : decode cX10_init 1 = .ok (.invokespecial 3, 3) := by decide +kernel
theorem dX10_init_4 : decode cX10_init 4 = .ok (.aload_n 0, 1) := by decide +kernel
theorem dX10_init_5 : decode cX10_init 5 = .ok (.sipush 4000, 3) := by decide +kernel
theorem dX10_init_8 : decode cX10_init 8 = .ok (.newarray .int, 2) := by decide +kernel
theorem dX10_init_10 : decode cX10_init 10 = .ok (.putfield 11, 3) := by decide +kernel
theorem dX10_init_13 : decode cX10_init 13 = .ok (.aload_n 0, 1) := by decide +kernel
theorem dX10_init_14 : decode cX10_init 14 = .ok (.bipush 100, 2) := by decide +kernel
theorem dX10_init_16 : decode cX10_init 16 = .ok (.newarray .int, 2) := by decide +kernel
theorem dX10_init_18 : decode cX10_init 18 = .ok (.putfield 15, 3) := by decide +kernel
theorem dX10_init_21 : decode cX10_init 21 = .ok (.aload_n 0, 1) := by decide +kernel
theorem dX10_init_22 : decode cX10_init 22 = .ok (.bipush 100, 2) := by decide +kernel
theorem dX10_init_24 : decode cX10_init 24 = .ok (.newarray .int, 2) := by decide +kernel
theorem dX10_init_26 : decode cX10_init 26 = .ok (.putfield 18, 3) := by decide +kernel
theorem dX10_init_29 : decode cX10_init 29 = .ok (.aload_n 0, 1) := by decide +kernel
theorem dX10_init_30 : decode cX10_init 30 = .ok (.bipush 100, 2) := by decide +kernel
theorem dX10_init_32 : decode cX10_init 32 = .ok (.newarray .boolean, 2) := by decide +kernel
theorem dX10_init_34 : decode cX10_init 34 = .ok (.putfield 21, 3) := by decide +kernel
theorem dX10_init_37 : decode cX10_init 37 = .ok (.aload_n 0, 1) := by decide +kernel
theorem dX10_init_38 : decode cX10_init 38 = .ok (.iconst (-1), 1) := by decide +kernel
theorem dX10_init_39 : decode cX10_init 39 = .ok (.putfield 25, 3) := by decide +kernel
theorem dX10_init_42 : decode cX10_init 42 = .ok (.aload_n 0, 1) := by decide +kernel
theorem dX10_init_43 : decode cX10_init 43 = .ok (.iconst 0, 1) := by decide +kernel
theorem dX10_init_44 : decode cX10_init 44 = .ok (.putfield 29, 3) := by decide +kernel
theorem dX10_init_47 : decode cX10_init 47 = .ok (.aload_n 0, 1) := by decide +kernel
theorem dX10_init_48 : decode cX10_init 48 = .ok (.iconst (-1), 1) := by decide +kernel
theorem dX10_init_49 : decode cX10_init 49 = .ok (.putfield 32, 3) := by decide +kernel
theorem dX10_init_52 : decode cX10_init 52 = .ok (.aload_n 0, 1) := by decide +kernel
theorem dX10_init_53 : decode cX10_init 53 = .ok (.iconst 0, 1) := by decide +kernel
theorem dX10_init_54 : decode cX10_init 54 = .ok (.putfield 35, 3) := by decide +kernel
theorem dX10_init_57 : decode cX10_init 57 = .ok (.return_, 1) := by decide +kernel
theorem dX10_begin_0 : decode cX10_begin 0 = .ok (.aload_n 0, 1) := by decide +kernel
theorem dX10_begin_1 : decode cX10_begin 1 = .ok (.getfield 15, 3) := by decide +kernel
theorem dX10_begin_4 : decode cX10_begin 4 = .ok (.iconst 0, 1) := by decide +kernel
theorem dX10_begin_5 : decode cX10_begin 5 = .ok (.invokestatic 38, 3) := by decide +kernel
theorem dX10_begin_8 : decode cX10_begin 8 = .ok (.aload_n 0, 1) := by decide +kernel
theorem dX10_begin_9 : decode cX10_begin 9 = .ok (.getfield 18, 3) := by decide +kernel
theorem dX10_begin_12 : decode cX10_begin 12 = .ok (.iconst 0, 1) := by decide +kernel
theorem dX10_begin_13 : decode cX10_begin 13 = .ok (.invokestatic 38, 3) := by decide +kernel
theorem dX10_begin_16 : decode cX10_begin 16 = .ok (.iconst 0, 1) := by decide +kernel
theorem dX10_begin_17 : decode cX10_begin 17 = .ok (.istore_n 2, 1) := by decide +kernel
theorem dX10_begin_18 : decode cX10_begin 18 = .ok (.iload_n 2, 1) := by decide +kernel
theorem dX10_begin_19 : decode cX10_begin 19 = .ok (.bipush 100, 2) := by decide +kernel
theorem dX10_begin_21 : decode cX10_begin 21 = .ok (.if_icmp .ge 16, 3) := by decide +kernel
theorem dX10_begin_24 : decode cX10_begin 24 = .ok (.aload_n 0, 1) := by decide +kernel
theorem dX10_begin_25 : decode cX10_begin 25 = .ok (.getfield 21, 3) := by decide +kernel
theorem dX10_begin_28 : decode cX10_begin 28 = .ok (.iload_n 2, 1) := by decide +kernel
theorem dX10_begin_29 : decode cX10_begin 29 = .ok (.iconst 0, 1) := by decide +kernel
theorem dX10_begin_30 : decode cX10_begin 30 = .ok (.bastore, 1) := by decide +kernel
theorem dX10_begin_31 : decode cX10_begin 31 = .ok (.iinc 2 1, 3) := by decide +kernel
theorem dX10_begin_34 : decode cX10_begin 34 = .ok (.goto (-16), 3) := by decide +kernel
theorem dX10_begin_37 : decode cX10_begin 37 = .ok (.aload_n 0, 1) := by decide +kernel
theorem dX10_begin_38 : decode cX10_begin 38 = .ok (.iconst (-1), 1) := by decide +kernel
theorem dX10_begin_39 : decode cX10_begin 39 = .ok (.putfield 25, 3) := by decide +kernel
theorem dX10_begin_42 : decode cX10_begin 42 = .ok (.aload_n 0, 1) := by decide +kernel
theorem dX10_begin_43 : decode cX10_begin 43 = .ok (.iconst 0, 1) := by decide +kernel
theorem dX10_begin_44 : decode cX10_begin 44 = .ok (.putfield 29, 3) := by decide +kernel
theorem dX10_begin_47 : decode cX10_begin 47 = .ok (.aload_n 0, 1) := by decide +kernel
theorem dX10_begin_48 : decode cX10_begin 48 = .ok (.iconst (-1), 1) := by decide +kernel
theorem dX10_begin_49 : decode cX10_begin 49 = .ok (.putfield 32, 3) := by decide +kernel
theorem dX10_begin_52 : decode cX10_begin 52 = .ok (.aload_n 0, 1) := by decide +kernel
theorem dX10_begin_53 : decode cX10_begin 53 = .ok (.iconst 0, 1) := by decide +kernel
theorem dX10_begin_54 : decode cX10_begin 54 = .ok (.putfield 35, 3) := by decide +kernel
theorem dX10_begin_57 : decode cX10_begin 57 = .ok (.return_, 1) := by decide +kernel
theorem dX10_price_0 : decode cX10_price 0 = .ok (.iload_n 1, 1) := by decide +kernel
theorem dX10_price_1 : decode cX10_price 1 = .ok (.invokestatic 44, 3) := by decide +kernel
theorem dX10_price_4 : decode cX10_price 4 = .ok (.ifCond .ne 5, 3) := by decide +kernel
theorem dX10_price_7 : decode cX10_price 7 = .ok (.iconst 4, 1) := by decide +kernel
theorem dX10_price_8 : decode cX10_price 8 = .ok (.ireturn, 1) := by decide +kernel
theorem dX10_price_9 : decode cX10_price 9 = .ok (.aload_n 0, 1) := by decide +kernel
theorem dX10_price_10 : decode cX10_price 10 = .ok (.iload_n 1, 1) := by decide +kernel
theorem dX10_price_11 : decode cX10_price 11 = .ok (.invokevirtual 48, 3) := by decide +kernel
theorem dX10_price_14 : decode cX10_price 14 = .ok (.aload_n 0, 1) := by decide +kernel
theorem dX10_price_15 : decode cX10_price 15 = .ok (.iload_n 1, 1) := by decide +kernel
theorem dX10_price_16 : decode cX10_price 16 = .ok (.aload_n 2, 1) := by decide +kernel
theorem dX10_price_17 : decode cX10_price 17 = .ok (.getstatic 52, 3) := by decide +kernel
theorem dX10_price_20 : decode cX10_price 20 = .ok (.if_acmp .ne 7, 3) := by decide +kernel
theorem dX10_price_23 : decode cX10_price 23 = .ok (.iconst 1, 1) := by decide +kernel
theorem dX10_price_24 : decode cX10_price 24 = .ok (.goto 4, 3) := by decide +kernel
theorem dX10_price_27 : decode cX10_price 27 = .ok (.iconst 0, 1) := by decide +kernel
theorem dX10_price_28 : decode cX10_price 28 = .ok (.invokevirtual 58, 3) := by decide +kernel
theorem dX10_price_31 : decode cX10_price 31 = .ok (.istore 4, 2) := by decide +kernel
theorem dX10_price_33 : decode cX10_price 33 = .ok (.iload_n 3, 1) := by decide +kernel
theorem dX10_price_34 : decode cX10_price 34 = .ok (.invokestatic 44, 3) := by decide +kernel
theorem dX10_price_37 : decode cX10_price 37 = .ok (.ifCond .eq 13, 3) := by decide +kernel
theorem dX10_price_40 : decode cX10_price 40 = .ok (.iload_n 3, 1) := by decide +kernel
theorem dX10_price_41 : decode cX10_price 41 = .ok (.iload_n 1, 1) := by decide +kernel
theorem dX10_price_42 : decode cX10_price 42 = .ok (.if_icmp .gt 8, 3) := by decide +kernel
theorem dX10_price_45 : decode cX10_price 45 = .ok (.aload_n 0, 1) := by decide +kernel
theorem dX10_price_46 : decode cX10_price 46 = .ok (.iload_n 3, 1) := by decide +kernel
theorem dX10_price_47 : decode cX10_price 47 = .ok (.invokevirtual 62, 3) := by decide +kernel
theorem dX10_price_50 : decode cX10_price 50 = .ok (.iload 4, 2) := by decide +kernel
theorem dX10_price_52 : decode cX10_price 52 = .ok (.ireturn, 1) := by decide +kernel
theorem dX10_traceLength_0 : decode cX10_traceLength 0 = .ok (.iload_n 1, 1) := by decide +kernel
theorem dX10_traceLength_1 : decode cX10_traceLength 1 = .ok (.invokestatic 44, 3) := by decide +kernel
theorem dX10_traceLength_4 : decode cX10_traceLength 4 = .ok (.ifCond .eq 12, 3) := by decide +kernel
theorem dX10_traceLength_7 : decode cX10_traceLength 7 = .ok (.aload_n 0, 1) := by decide +kernel
theorem dX10_traceLength_8 : decode cX10_traceLength 8 = .ok (.getfield 15, 3) := by decide +kernel
theorem dX10_traceLength_11 : decode cX10_traceLength 11 = .ok (.iload_n 1, 1) := by decide +kernel
theorem dX10_traceLength_12 : decode cX10_traceLength 12 = .ok (.iaload, 1) := by decide +kernel
theorem dX10_traceLength_13 : decode cX10_traceLength 13 = .ok (.goto 4, 3) := by decide +kernel
theorem dX10_traceLength_16 : decode cX10_traceLength 16 = .ok (.iconst 0, 1) := by decide +kernel
theorem dX10_traceLength_17 : decode cX10_traceLength 17 = .ok (.ireturn, 1) := by decide +kernel
theorem dX10_isPlace_0 : decode cX10_isPlace 0 = .ok (.iload_n 0, 1) := by decide +kernel
theorem dX10_isPlace_1 : decode cX10_isPlace 1 = .ok (.ifCond .lt 13, 3) := by decide +kernel
theorem dX10_isPlace_4 : decode cX10_isPlace 4 = .ok (.iload_n 0, 1) := by decide +kernel
theorem dX10_isPlace_5 : decode cX10_isPlace 5 = .ok (.bipush 100, 2) := by decide +kernel
theorem dX10_isPlace_7 : decode cX10_isPlace 7 = .ok (.if_icmp .ge 7, 3) := by decide +kernel
theorem dX10_isPlace_10 : decode cX10_isPlace 10 = .ok (.iconst 1, 1) := by decide +kernel
theorem dX10_isPlace_11 : decode cX10_isPlace 11 = .ok (.goto 4, 3) := by decide +kernel
theorem dX10_isPlace_14 : decode cX10_isPlace 14 = .ok (.iconst 0, 1) := by decide +kernel
theorem dX10_isPlace_15 : decode cX10_isPlace 15 = .ok (.ireturn, 1) := by decide +kernel
theorem dX10_write_0 : decode cX10_write 0 = .ok (.aload_n 0, 1) := by decide +kernel
theorem dX10_write_1 : decode cX10_write 1 = .ok (.getfield 25, 3) := by decide +kernel
theorem dX10_write_4 : decode cX10_write 4 = .ok (.invokestatic 44, 3) := by decide +kernel
theorem dX10_write_7 : decode cX10_write 7 = .ok (.ifCond .ne 4, 3) := by decide +kernel
theorem dX10_write_10 : decode cX10_write 10 = .ok (.return_, 1) := by decide +kernel
theorem dX10_write_11 : decode cX10_write 11 = .ok (.aload_n 0, 1) := by decide +kernel
theorem dX10_write_12 : decode cX10_write 12 = .ok (.getfield 29, 3) := by decide +kernel
theorem dX10_write_15 : decode cX10_write 15 = .ok (.ifCond .le 32, 3) := by decide +kernel
theorem dX10_write_18 : decode cX10_write 18 = .ok (.iload_n 1, 1) := by decide +kernel
theorem dX10_write_19 : decode cX10_write 19 = .ok (.aload_n 0, 1) := by decide +kernel
theorem dX10_write_20 : decode cX10_write 20 = .ok (.getfield 25, 3) := by decide +kernel
theorem dX10_write_23 : decode cX10_write 23 = .ok (.if_icmp .ne 24, 3) := by decide +kernel
theorem dX10_write_26 : decode cX10_write 26 = .ok (.aload_n 0, 1) := by decide +kernel
theorem dX10_write_27 : decode cX10_write 27 = .ok (.getfield 15, 3) := by decide +kernel
theorem dX10_write_30 : decode cX10_write 30 = .ok (.aload_n 0, 1) := by decide +kernel
theorem dX10_write_31 : decode cX10_write 31 = .ok (.getfield 25, 3) := by decide +kernel
theorem dX10_write_34 : decode cX10_write 34 = .ok (.aload_n 0, 1) := by decide +kernel
theorem dX10_write_35 : decode cX10_write 35 = .ok (.getfield 29, 3) := by decide +kernel
theorem dX10_write_38 : decode cX10_write 38 = .ok (.iastore, 1) := by decide +kernel
theorem dX10_write_39 : decode cX10_write 39 = .ok (.aload_n 0, 1) := by decide +kernel
theorem dX10_write_40 : decode cX10_write 40 = .ok (.iconst (-1), 1) := by decide +kernel
theorem dX10_write_41 : decode cX10_write 41 = .ok (.putfield 25, 3) := by decide +kernel
theorem dX10_write_44 : decode cX10_write 44 = .ok (.goto 48, 3) := by decide +kernel
theorem dX10_write_47 : decode cX10_write 47 = .ok (.aload_n 0, 1) := by decide +kernel
theorem dX10_write_48 : decode cX10_write 48 = .ok (.getfield 29, 3) := by decide +kernel
theorem dX10_write_51 : decode cX10_write 51 = .ok (.bipush 40, 2) := by decide +kernel
theorem dX10_write_53 : decode cX10_write 53 = .ok (.if_icmp .lt 11, 3) := by decide +kernel
theorem dX10_write_56 : decode cX10_write 56 = .ok (.aload_n 0, 1) := by decide +kernel
theorem dX10_write_57 : decode cX10_write 57 = .ok (.iconst (-1), 1) := by decide +kernel
theorem dX10_write_58 : decode cX10_write 58 = .ok (.putfield 25, 3) := by decide +kernel
theorem dX10_write_61 : decode cX10_write 61 = .ok (.goto 31, 3) := by decide +kernel
theorem dX10_write_64 : decode cX10_write 64 = .ok (.aload_n 0, 1) := by decide +kernel
theorem dX10_write_65 : decode cX10_write 65 = .ok (.getfield 11, 3) := by decide +kernel
theorem dX10_write_68 : decode cX10_write 68 = .ok (.aload_n 0, 1) := by decide +kernel
theorem dX10_write_69 : decode cX10_write 69 = .ok (.getfield 25, 3) := by decide +kernel
theorem dX10_write_72 : decode cX10_write 72 = .ok (.bipush 40, 2) := by decide +kernel
theorem dX10_write_74 : decode cX10_write 74 = .ok (.imul, 1) := by decide +kernel
theorem dX10_write_75 : decode cX10_write 75 = .ok (.aload_n 0, 1) := by decide +kernel
theorem dX10_write_76 : decode cX10_write 76 = .ok (.getfield 29, 3) := by decide +kernel
theorem dX10_write_79 : decode cX10_write 79 = .ok (.iadd, 1) := by decide +kernel
theorem dX10_write_80 : decode cX10_write 80 = .ok (.iload_n 1, 1) := by decide +kernel
theorem dX10_write_81 : decode cX10_write 81 = .ok (.iastore, 1) := by decide +kernel
theorem dX10_write_82 : decode cX10_write 82 = .ok (.aload_n 0, 1) := by decide +kernel
theorem dX10_write_83 : decode cX10_write 83 = .ok (.dup, 1) := by decide +kernel
theorem dX10_write_84 : decode cX10_write 84 = .ok (.getfield 29, 3) := by decide +kernel
theorem dX10_write_87 : decode cX10_write 87 = .ok (.iconst 1, 1) := by decide +kernel
theorem dX10_write_88 : decode cX10_write 88 = .ok (.iadd, 1) := by decide +kernel
theorem dX10_write_89 : decode cX10_write 89 = .ok (.putfield 29, 3) := by decide +kernel
theorem dX10_write_92 : decode cX10_write 92 = .ok (.return_, 1) := by decide +kernel
theorem dX10_priceOfGoing_0 : decode cX10_priceOfGoing 0 = .ok (.iconst 0, 1) := by decide +kernel
theorem dX10_priceOfGoing_1 : decode cX10_priceOfGoing 1 = .ok (.istore_n 3, 1) := by decide +kernel
theorem dX10_priceOfGoing_2 : decode cX10_priceOfGoing 2 = .ok (.aload_n 0, 1) := by decide +kernel
theorem dX10_priceOfGoing_3 : decode cX10_priceOfGoing 3 = .ok (.getfield 32, 3) := by decide +kernel
theorem dX10_priceOfGoing_6 : decode cX10_priceOfGoing 6 = .ok (.invokestatic 44, 3) := by decide +kernel
theorem dX10_priceOfGoing_9 : decode cX10_priceOfGoing 9 = .ok (.ifCond .eq 20, 3) := by decide +kernel
theorem dX10_priceOfGoing_12 : decode cX10_priceOfGoing 12 = .ok (.aload_n 0, 1) := by decide +kernel
theorem dX10_priceOfGoing_13 : decode cX10_priceOfGoing 13 = .ok (.invokevirtual 65, 3) := by decide +kernel
theorem dX10_priceOfGoing_16 : decode cX10_priceOfGoing 16 = .ok (.iload_n 1, 1) := by decide +kernel
theorem dX10_priceOfGoing_17 : decode cX10_priceOfGoing 17 = .ok (.if_icmp .ne 9, 3) := by decide +kernel
theorem dX10_priceOfGoing_20 : decode cX10_priceOfGoing 20 = .ok (.aload_n 0, 1) := by decide +kernel
theorem dX10_priceOfGoing_21 : decode cX10_priceOfGoing 21 = .ok (.invokevirtual 69, 3) := by decide +kernel
theorem dX10_priceOfGoing_24 : decode cX10_priceOfGoing 24 = .ok (.iload_n 2, 1) := by decide +kernel
theorem dX10_priceOfGoing_25 : decode cX10_priceOfGoing 25 = .ok (.ireturn, 1) := by decide +kernel
theorem dX10_priceOfGoing_26 : decode cX10_priceOfGoing 26 = .ok (.bipush 10, 2) := by decide +kernel
theorem dX10_priceOfGoing_28 : decode cX10_priceOfGoing 28 = .ok (.istore_n 3, 1) := by decide +kernel
theorem dX10_priceOfGoing_29 : decode cX10_priceOfGoing 29 = .ok (.aload_n 0, 1) := by decide +kernel
theorem dX10_priceOfGoing_30 : decode cX10_priceOfGoing 30 = .ok (.getfield 15, 3) := by decide +kernel
theorem dX10_priceOfGoing_33 : decode cX10_priceOfGoing 33 = .ok (.iload_n 1, 1) := by decide +kernel
theorem dX10_priceOfGoing_34 : decode cX10_priceOfGoing 34 = .ok (.iaload, 1) := by decide +kernel
theorem dX10_priceOfGoing_35 : decode cX10_priceOfGoing 35 = .ok (.ifCond .ne 12, 3) := by decide +kernel
theorem dX10_priceOfGoing_38 : decode cX10_priceOfGoing 38 = .ok (.aload_n 0, 1) := by decide +kernel
theorem dX10_priceOfGoing_39 : decode cX10_priceOfGoing 39 = .ok (.iconst (-1), 1) := by decide +kernel
theorem dX10_priceOfGoing_40 : decode cX10_priceOfGoing 40 = .ok (.putfield 32, 3) := by decide +kernel
theorem dX10_priceOfGoing_43 : decode cX10_priceOfGoing 43 = .ok (.iload_n 3, 1) := by decide +kernel
theorem dX10_priceOfGoing_44 : decode cX10_priceOfGoing 44 = .ok (.iconst 4, 1) := by decide +kernel
theorem dX10_priceOfGoing_45 : decode cX10_priceOfGoing 45 = .ok (.iadd, 1) := by decide +kernel
theorem dX10_priceOfGoing_46 : decode cX10_priceOfGoing 46 = .ok (.ireturn, 1) := by decide +kernel
theorem dX10_priceOfGoing_47 : decode cX10_priceOfGoing 47 = .ok (.aload_n 0, 1) := by decide +kernel
theorem dX10_priceOfGoing_48 : decode cX10_priceOfGoing 48 = .ok (.iload_n 1, 1) := by decide +kernel
theorem dX10_priceOfGoing_49 : decode cX10_priceOfGoing 49 = .ok (.putfield 32, 3) := by decide +kernel
theorem dX10_priceOfGoing_52 : decode cX10_priceOfGoing 52 = .ok (.aload_n 0, 1) := by decide +kernel
theorem dX10_priceOfGoing_53 : decode cX10_priceOfGoing 53 = .ok (.iconst 0, 1) := by decide +kernel
theorem dX10_priceOfGoing_54 : decode cX10_priceOfGoing 54 = .ok (.putfield 35, 3) := by decide +kernel
theorem dX10_priceOfGoing_57 : decode cX10_priceOfGoing 57 = .ok (.aload_n 0, 1) := by decide +kernel
theorem dX10_priceOfGoing_58 : decode cX10_priceOfGoing 58 = .ok (.invokevirtual 69, 3) := by decide +kernel
theorem dX10_priceOfGoing_61 : decode cX10_priceOfGoing 61 = .ok (.iload_n 3, 1) := by decide +kernel
theorem dX10_priceOfGoing_62 : decode cX10_priceOfGoing 62 = .ok (.iload_n 2, 1) := by decide +kernel
theorem dX10_priceOfGoing_63 : decode cX10_priceOfGoing 63 = .ok (.iadd, 1) := by decide +kernel
theorem dX10_priceOfGoing_64 : decode cX10_priceOfGoing 64 = .ok (.ireturn, 1) := by decide +kernel
theorem dX10_placeWithin_0 : decode cX10_placeWithin 0 = .ok (.aload_n 0, 1) := by decide +kernel
theorem dX10_placeWithin_1 : decode cX10_placeWithin 1 = .ok (.getfield 32, 3) := by decide +kernel
theorem dX10_placeWithin_4 : decode cX10_placeWithin 4 = .ok (.invokestatic 44, 3) := by decide +kernel
theorem dX10_placeWithin_7 : decode cX10_placeWithin 7 = .ok (.ifCond .eq 23, 3) := by decide +kernel
theorem dX10_placeWithin_10 : decode cX10_placeWithin 10 = .ok (.aload_n 0, 1) := by decide +kernel
theorem dX10_placeWithin_11 : decode cX10_placeWithin 11 = .ok (.getfield 35, 3) := by decide +kernel
theorem dX10_placeWithin_14 : decode cX10_placeWithin 14 = .ok (.ifCond .lt 16, 3) := by decide +kernel
theorem dX10_placeWithin_17 : decode cX10_placeWithin 17 = .ok (.aload_n 0, 1) := by decide +kernel
theorem dX10_placeWithin_18 : decode cX10_placeWithin 18 = .ok (.getfield 35, 3) := by decide +kernel
theorem dX10_placeWithin_21 : decode cX10_placeWithin 21 = .ok (.bipush 40, 2) := by decide +kernel
theorem dX10_placeWithin_23 : decode cX10_placeWithin 23 = .ok (.if_icmp .ge 7, 3) := by decide +kernel
theorem dX10_placeWithin_26 : decode cX10_placeWithin 26 = .ok (.iconst 1, 1) := by decide +kernel
theorem dX10_placeWithin_27 : decode cX10_placeWithin 27 = .ok (.goto 4, 3) := by decide +kernel
theorem dX10_placeWithin_30 : decode cX10_placeWithin 30 = .ok (.iconst 0, 1) := by decide +kernel
theorem dX10_placeWithin_31 : decode cX10_placeWithin 31 = .ok (.istore_n 1, 1) := by decide +kernel
theorem dX10_placeWithin_32 : decode cX10_placeWithin 32 = .ok (.iload_n 1, 1) := by decide +kernel
theorem dX10_placeWithin_33 : decode cX10_placeWithin 33 = .ok (.ifCond .eq 23, 3) := by decide +kernel
theorem dX10_placeWithin_36 : decode cX10_placeWithin 36 = .ok (.aload_n 0, 1) := by decide +kernel
theorem dX10_placeWithin_37 : decode cX10_placeWithin 37 = .ok (.getfield 11, 3) := by decide +kernel
theorem dX10_placeWithin_40 : decode cX10_placeWithin 40 = .ok (.aload_n 0, 1) := by decide +kernel
theorem dX10_placeWithin_41 : decode cX10_placeWithin 41 = .ok (.getfield 32, 3) := by decide +kernel
theorem dX10_placeWithin_44 : decode cX10_placeWithin 44 = .ok (.bipush 40, 2) := by decide +kernel
theorem dX10_placeWithin_46 : decode cX10_placeWithin 46 = .ok (.imul, 1) := by decide +kernel
theorem dX10_placeWithin_47 : decode cX10_placeWithin 47 = .ok (.aload_n 0, 1) := by decide +kernel
theorem dX10_placeWithin_48 : decode cX10_placeWithin 48 = .ok (.getfield 35, 3) := by decide +kernel
theorem dX10_placeWithin_51 : decode cX10_placeWithin 51 = .ok (.iadd, 1) := by decide +kernel
theorem dX10_placeWithin_52 : decode cX10_placeWithin 52 = .ok (.iaload, 1) := by decide +kernel
theorem dX10_placeWithin_53 : decode cX10_placeWithin 53 = .ok (.goto 4, 3) := by decide +kernel
theorem dX10_placeWithin_56 : decode cX10_placeWithin 56 = .ok (.iconst (-1), 1) := by decide +kernel
theorem dX10_placeWithin_57 : decode cX10_placeWithin 57 = .ok (.ireturn, 1) := by decide +kernel
theorem dX10_goRound_0 : decode cX10_goRound 0 = .ok (.aload_n 0, 1) := by decide +kernel
theorem dX10_goRound_1 : decode cX10_goRound 1 = .ok (.dup, 1) := by decide +kernel
theorem dX10_goRound_2 : decode cX10_goRound 2 = .ok (.getfield 35, 3) := by decide +kernel
theorem dX10_goRound_5 : decode cX10_goRound 5 = .ok (.iconst 1, 1) := by decide +kernel
theorem dX10_goRound_6 : decode cX10_goRound 6 = .ok (.iadd, 1) := by decide +kernel
theorem dX10_goRound_7 : decode cX10_goRound 7 = .ok (.putfield 35, 3) := by decide +kernel
theorem dX10_goRound_10 : decode cX10_goRound 10 = .ok (.aload_n 0, 1) := by decide +kernel
theorem dX10_goRound_11 : decode cX10_goRound 11 = .ok (.getfield 32, 3) := by decide +kernel
theorem dX10_goRound_14 : decode cX10_goRound 14 = .ok (.invokestatic 44, 3) := by decide +kernel
theorem dX10_goRound_17 : decode cX10_goRound 17 = .ok (.ifCond .eq 19, 3) := by decide +kernel
theorem dX10_goRound_20 : decode cX10_goRound 20 = .ok (.aload_n 0, 1) := by decide +kernel
theorem dX10_goRound_21 : decode cX10_goRound 21 = .ok (.getfield 35, 3) := by decide +kernel
theorem dX10_goRound_24 : decode cX10_goRound 24 = .ok (.aload_n 0, 1) := by decide +kernel
theorem dX10_goRound_25 : decode cX10_goRound 25 = .ok (.getfield 15, 3) := by decide +kernel
theorem dX10_goRound_28 : decode cX10_goRound 28 = .ok (.aload_n 0, 1) := by decide +kernel
theorem dX10_goRound_29 : decode cX10_goRound 29 = .ok (.getfield 32, 3) := by decide +kernel
theorem dX10_goRound_32 : decode cX10_goRound 32 = .ok (.iaload, 1) := by decide +kernel
theorem dX10_goRound_33 : decode cX10_goRound 33 = .ok (.if_icmp .lt 8, 3) := by decide +kernel
theorem dX10_goRound_36 : decode cX10_goRound 36 = .ok (.aload_n 0, 1) := by decide +kernel
theorem dX10_goRound_37 : decode cX10_goRound 37 = .ok (.iconst 0, 1) := by decide +kernel
theorem dX10_goRound_38 : decode cX10_goRound 38 = .ok (.putfield 35, 3) := by decide +kernel
theorem dX10_goRound_41 : decode cX10_goRound 41 = .ok (.return_, 1) := by decide +kernel
theorem dX10_countRound_0 : decode cX10_countRound 0 = .ok (.aload_n 0, 1) := by decide +kernel
theorem dX10_countRound_1 : decode cX10_countRound 1 = .ok (.getfield 18, 3) := by decide +kernel
theorem dX10_countRound_4 : decode cX10_countRound 4 = .ok (.iload_n 1, 1) := by decide +kernel
theorem dX10_countRound_5 : decode cX10_countRound 5 = .ok (.dup2, 1) := by decide +kernel
theorem dX10_countRound_6 : decode cX10_countRound 6 = .ok (.iaload, 1) := by decide +kernel
theorem dX10_countRound_7 : decode cX10_countRound 7 = .ok (.iconst 1, 1) := by decide +kernel
theorem dX10_countRound_8 : decode cX10_countRound 8 = .ok (.iadd, 1) := by decide +kernel
theorem dX10_countRound_9 : decode cX10_countRound 9 = .ok (.iastore, 1) := by decide +kernel
theorem dX10_countRound_10 : decode cX10_countRound 10 = .ok (.aload_n 0, 1) := by decide +kernel
theorem dX10_countRound_11 : decode cX10_countRound 11 = .ok (.getfield 18, 3) := by decide +kernel
theorem dX10_countRound_14 : decode cX10_countRound 14 = .ok (.iload_n 1, 1) := by decide +kernel
theorem dX10_countRound_15 : decode cX10_countRound 15 = .ok (.iaload, 1) := by decide +kernel
theorem dX10_countRound_16 : decode cX10_countRound 16 = .ok (.bipush 8, 2) := by decide +kernel
theorem dX10_countRound_18 : decode cX10_countRound 18 = .ok (.if_icmp .lt 37, 3) := by decide +kernel
theorem dX10_countRound_21 : decode cX10_countRound 21 = .ok (.aload_n 0, 1) := by decide +kernel
theorem dX10_countRound_22 : decode cX10_countRound 22 = .ok (.getfield 25, 3) := by decide +kernel
theorem dX10_countRound_25 : decode cX10_countRound 25 = .ok (.iconst (-1), 1) := by decide +kernel
theorem dX10_countRound_26 : decode cX10_countRound 26 = .ok (.if_icmp .ne 29, 3) := by decide +kernel
theorem dX10_countRound_29 : decode cX10_countRound 29 = .ok (.aload_n 0, 1) := by decide +kernel
theorem dX10_countRound_30 : decode cX10_countRound 30 = .ok (.getfield 21, 3) := by decide +kernel
theorem dX10_countRound_33 : decode cX10_countRound 33 = .ok (.iload_n 1, 1) := by decide +kernel
theorem dX10_countRound_34 : decode cX10_countRound 34 = .ok (.baload, 1) := by decide +kernel
theorem dX10_countRound_35 : decode cX10_countRound 35 = .ok (.ifCond .ne 20, 3) := by decide +kernel
theorem dX10_countRound_38 : decode cX10_countRound 38 = .ok (.aload_n 0, 1) := by decide +kernel
theorem dX10_countRound_39 : decode cX10_countRound 39 = .ok (.getfield 21, 3) := by decide +kernel
theorem dX10_countRound_42 : decode cX10_countRound 42 = .ok (.iload_n 1, 1) := by decide +kernel
theorem dX10_countRound_43 : decode cX10_countRound 43 = .ok (.iconst 1, 1) := by decide +kernel
theorem dX10_countRound_44 : decode cX10_countRound 44 = .ok (.bastore, 1) := by decide +kernel
theorem dX10_countRound_45 : decode cX10_countRound 45 = .ok (.aload_n 0, 1) := by decide +kernel
theorem dX10_countRound_46 : decode cX10_countRound 46 = .ok (.iload_n 1, 1) := by decide +kernel
theorem dX10_countRound_47 : decode cX10_countRound 47 = .ok (.putfield 25, 3) := by decide +kernel
theorem dX10_countRound_50 : decode cX10_countRound 50 = .ok (.aload_n 0, 1) := by decide +kernel
theorem dX10_countRound_51 : decode cX10_countRound 51 = .ok (.iconst 0, 1) := by decide +kernel
theorem dX10_countRound_52 : decode cX10_countRound 52 = .ok (.putfield 29, 3) := by decide +kernel
theorem dX10_countRound_55 : decode cX10_countRound 55 = .ok (.return_, 1) := by decide +kernel
theorem dX11_init_0 : decode cX11_init 0 = .ok (.aload_n 0, 1) := by decide +kernel
theorem dX11_init_1 : decode cX11_init 1 = .ok (.invokespecial 3, 3) := by decide +kernel
theorem dX11_init_4 : decode cX11_init 4 = .ok (.aload_n 0, 1) := by decide +kernel
theorem dX11_init_5 : decode cX11_init 5 = .ok (.sipush 600, 3) := by decide +kernel
theorem dX11_init_8 : decode cX11_init 8 = .ok (.newarray .int, 2) := by decide +kernel
theorem dX11_init_10 : decode cX11_init 10 = .ok (.putfield 9, 3) := by decide +kernel
theorem dX11_init_13 : decode cX11_init 13 = .ok (.aload_n 0, 1) := by decide +kernel
theorem dX11_init_14 : decode cX11_init 14 = .ok (.new 13, 3) := by decide +kernel
theorem dX11_init_17 : decode cX11_init 17 = .ok (.dup, 1) := by decide +kernel
theorem dX11_init_18 : decode cX11_init 18 = .ok (.invokespecial 15, 3) := by decide +kernel
theorem dX11_init_21 : decode cX11_init 21 = .ok (.putfield 16, 3) := by decide +kernel
theorem dX11_init_24 : decode cX11_init 24 = .ok (.aload_n 0, 1) := by decide +kernel
theorem dX11_init_25 : decode cX11_init 25 = .ok (.new 20, 3) := by decide +kernel
theorem dX11_init_28 : decode cX11_init 28 = .ok (.dup, 1) := by decide +kernel
theorem dX11_init_29 : decode cX11_init 29 = .ok (.invokespecial 22, 3) := by decide +kernel
theorem dX11_init_32 : decode cX11_init 32 = .ok (.putfield 23, 3) := by decide +kernel
theorem dX11_init_35 : decode cX11_init 35 = .ok (.aload_n 0, 1) := by decide +kernel
theorem dX11_init_36 : decode cX11_init 36 = .ok (.new 27, 3) := by decide +kernel
theorem dX11_init_39 : decode cX11_init 39 = .ok (.dup, 1) := by decide +kernel
theorem dX11_init_40 : decode cX11_init 40 = .ok (.bipush 6, 2) := by decide +kernel
theorem dX11_init_42 : decode cX11_init 42 = .ok (.invokespecial 29, 3) := by decide +kernel
theorem dX11_init_45 : decode cX11_init 45 = .ok (.putfield 32, 3) := by decide +kernel
theorem dX11_init_48 : decode cX11_init 48 = .ok (.aload_n 0, 1) := by decide +kernel
theorem dX11_init_49 : decode cX11_init 49 = .ok (.new 27, 3) := by decide +kernel
theorem dX11_init_52 : decode cX11_init 52 = .ok (.dup, 1) := by decide +kernel
theorem dX11_init_53 : decode cX11_init 53 = .ok (.iconst 4, 1) := by decide +kernel
theorem dX11_init_54 : decode cX11_init 54 = .ok (.invokespecial 29, 3) := by decide +kernel
theorem dX11_init_57 : decode cX11_init 57 = .ok (.putfield 36, 3) := by decide +kernel
theorem dX11_init_60 : decode cX11_init 60 = .ok (.aload_n 0, 1) := by decide +kernel
theorem dX11_init_61 : decode cX11_init 61 = .ok (.new 39, 3) := by decide +kernel
theorem dX11_init_64 : decode cX11_init 64 = .ok (.dup, 1) := by decide +kernel
theorem dX11_init_65 : decode cX11_init 65 = .ok (.aload_n 0, 1) := by decide +kernel
theorem dX11_init_66 : decode cX11_init 66 = .ok (.getfield 23, 3) := by decide +kernel
theorem dX11_init_69 : decode cX11_init 69 = .ok (.invokespecial 41, 3) := by decide +kernel
theorem dX11_init_72 : decode cX11_init 72 = .ok (.putfield 44, 3) := by decide +kernel
theorem dX11_init_75 : decode cX11_init 75 = .ok (.aload_n 0, 1) := by decide +kernel
theorem dX11_init_76 : decode cX11_init 76 = .ok (.new 48, 3) := by decide +kernel
theorem dX11_init_79 : decode cX11_init 79 = .ok (.dup, 1) := by decide +kernel
theorem dX11_init_80 : decode cX11_init 80 = .ok (.invokespecial 50, 3) := by decide +kernel
theorem dX11_init_83 : decode cX11_init 83 = .ok (.putfield 51, 3) := by decide +kernel
theorem dX11_init_86 : decode cX11_init 86 = .ok (.aload_n 0, 1) := by decide +kernel
theorem dX11_init_87 : decode cX11_init 87 = .ok (.new 54, 3) := by decide +kernel
theorem dX11_init_90 : decode cX11_init 90 = .ok (.dup, 1) := by decide +kernel
theorem dX11_init_91 : decode cX11_init 91 = .ok (.invokespecial 56, 3) := by decide +kernel
theorem dX11_init_94 : decode cX11_init 94 = .ok (.putfield 57, 3) := by decide +kernel
theorem dX11_init_97 : decode cX11_init 97 = .ok (.aload_n 0, 1) := by decide +kernel
theorem dX11_init_98 : decode cX11_init 98 = .ok (.new 60, 3) := by decide +kernel
theorem dX11_init_101 : decode cX11_init 101 = .ok (.dup, 1) := by decide +kernel
theorem dX11_init_102 : decode cX11_init 102 = .ok (.invokespecial 62, 3) := by decide +kernel
theorem dX11_init_105 : decode cX11_init 105 = .ok (.putfield 63, 3) := by decide +kernel
theorem dX11_init_108 : decode cX11_init 108 = .ok (.aload_n 0, 1) := by decide +kernel
theorem dX11_init_109 : decode cX11_init 109 = .ok (.new 60, 3) := by decide +kernel
theorem dX11_init_112 : decode cX11_init 112 = .ok (.dup, 1) := by decide +kernel
theorem dX11_init_113 : decode cX11_init 113 = .ok (.invokespecial 62, 3) := by decide +kernel
theorem dX11_init_116 : decode cX11_init 116 = .ok (.putfield 67, 3) := by decide +kernel
theorem dX11_init_119 : decode cX11_init 119 = .ok (.aload_n 0, 1) := by decide +kernel
theorem dX11_init_120 : decode cX11_init 120 = .ok (.new 70, 3) := by decide +kernel
theorem dX11_init_123 : decode cX11_init 123 = .ok (.dup, 1) := by decide +kernel
theorem dX11_init_124 : decode cX11_init 124 = .ok (.invokespecial 72, 3) := by decide +kernel
theorem dX11_init_127 : decode cX11_init 127 = .ok (.putfield 73, 3) := by decide +kernel
theorem dX11_init_130 : decode cX11_init 130 = .ok (.aload_n 0, 1) := by decide +kernel
theorem dX11_init_131 : decode cX11_init 131 = .ok (.new 70, 3) := by decide +kernel
theorem dX11_init_134 : decode cX11_init 134 = .ok (.dup, 1) := by decide +kernel
theorem dX11_init_135 : decode cX11_init 135 = .ok (.invokespecial 72, 3) := by decide +kernel
theorem dX11_init_138 : decode cX11_init 138 = .ok (.putfield 77, 3) := by decide +kernel
theorem dX11_init_141 : decode cX11_init 141 = .ok (.aload_n 0, 1) := by decide +kernel
theorem dX11_init_142 : decode cX11_init 142 = .ok (.iconst 0, 1) := by decide +kernel
theorem dX11_init_143 : decode cX11_init 143 = .ok (.putfield 80, 3) := by decide +kernel
theorem dX11_init_146 : decode cX11_init 146 = .ok (.aload_n 0, 1) := by decide +kernel
theorem dX11_init_147 : decode cX11_init 147 = .ok (.iconst 0, 1) := by decide +kernel
theorem dX11_init_148 : decode cX11_init 148 = .ok (.putfield 84, 3) := by decide +kernel
theorem dX11_init_151 : decode cX11_init 151 = .ok (.aload_n 0, 1) := by decide +kernel
theorem dX11_init_152 : decode cX11_init 152 = .ok (.iconst 0, 1) := by decide +kernel
theorem dX11_init_153 : decode cX11_init 153 = .ok (.putfield 87, 3) := by decide +kernel
theorem dX11_init_156 : decode cX11_init 156 = .ok (.aload_n 0, 1) := by decide +kernel
theorem dX11_init_157 : decode cX11_init 157 = .ok (.iconst (-1), 1) := by decide +kernel
theorem dX11_init_158 : decode cX11_init 158 = .ok (.putfield 90, 3) := by decide +kernel
theorem dX11_init_161 : decode cX11_init 161 = .ok (.aload_n 0, 1) := by decide +kernel
theorem dX11_init_162 : decode cX11_init 162 = .ok (.iconst 0, 1) := by decide +kernel
theorem dX11_init_163 : decode cX11_init 163 = .ok (.putfield 93, 3) := by decide +kernel
theorem dX11_init_166 : decode cX11_init 166 = .ok (.return_, 1) := by decide +kernel
theorem dX11_feed_0 : decode cX11_feed 0 = .ok (.aload_n 0, 1) := by decide +kernel
theorem dX11_feed_1 : decode cX11_feed 1 = .ok (.getfield 80, 3) := by decide +kernel
theorem dX11_feed_4 : decode cX11_feed 4 = .ok (.bipush 20, 2) := by decide +kernel
theorem dX11_feed_6 : decode cX11_feed 6 = .ok (.iadd, 1) := by decide +kernel
theorem dX11_feed_7 : decode cX11_feed 7 = .ok (.sipush 600, 3) := by decide +kernel
theorem dX11_feed_10 : decode cX11_feed 10 = .ok (.if_icmp .le 5, 3) := by decide +kernel
theorem dX11_feed_13 : decode cX11_feed 13 = .ok (.iconst (-1), 1) := by decide +kernel
theorem dX11_feed_14 : decode cX11_feed 14 = .ok (.ireturn, 1) := by decide +kernel
theorem dX11_feed_15 : decode cX11_feed 15 = .ok (.aload_n 0, 1) := by decide +kernel
theorem dX11_feed_16 : decode cX11_feed 16 = .ok (.iload_n 1, 1) := by decide +kernel
theorem dX11_feed_17 : decode cX11_feed 17 = .ok (.invokevirtual 96, 3) := by decide +kernel
theorem dX11_feed_20 : decode cX11_feed 20 = .ok (.aload_n 0, 1) := by decide +kernel
theorem dX11_feed_21 : decode cX11_feed 21 = .ok (.iload_n 2, 1) := by decide +kernel
theorem dX11_feed_22 : decode cX11_feed 22 = .ok (.invokevirtual 96, 3) := by decide +kernel
theorem dX11_feed_25 : decode cX11_feed 25 = .ok (.aload_n 0, 1) := by decide +kernel
theorem dX11_feed_26 : decode cX11_feed 26 = .ok (.iload_n 3, 1) := by decide +kernel
theorem dX11_feed_27 : decode cX11_feed 27 = .ok (.invokevirtual 96, 3) := by decide +kernel
theorem dX11_feed_30 : decode cX11_feed 30 = .ok (.aload_n 0, 1) := by decide +kernel
theorem dX11_feed_31 : decode cX11_feed 31 = .ok (.iload 4, 2) := by decide +kernel
theorem dX11_feed_33 : decode cX11_feed 33 = .ok (.invokevirtual 96, 3) := by decide +kernel
theorem dX11_feed_36 : decode cX11_feed 36 = .ok (.aload_n 0, 1) := by decide +kernel
theorem dX11_feed_37 : decode cX11_feed 37 = .ok (.iload 5, 2) := by decide +kernel
theorem dX11_feed_39 : decode cX11_feed 39 = .ok (.invokevirtual 96, 3) := by decide +kernel
theorem dX11_feed_42 : decode cX11_feed 42 = .ok (.aload_n 0, 1) := by decide +kernel
theorem dX11_feed_43 : decode cX11_feed 43 = .ok (.getfield 80, 3) := by decide +kernel
theorem dX11_feed_46 : decode cX11_feed 46 = .ok (.ireturn, 1) := by decide +kernel
theorem dX11_program_0 : decode cX11_program 0 = .ok (.iload_n 1, 1) := by decide +kernel
theorem dX11_program_1 : decode cX11_program 1 = .ok (.ifCond .lt 11, 3) := by decide +kernel
theorem dX11_program_4 : decode cX11_program 4 = .ok (.iload_n 1, 1) := by decide +kernel
theorem dX11_program_5 : decode cX11_program 5 = .ok (.aload_n 0, 1) := by decide +kernel
theorem dX11_program_6 : decode cX11_program 6 = .ok (.getfield 80, 3) := by decide +kernel
theorem dX11_program_9 : decode cX11_program 9 = .ok (.if_icmp .le 9, 3) := by decide +kernel
theorem dX11_program_12 : decode cX11_program 12 = .ok (.aload_n 0, 1) := by decide +kernel
theorem dX11_program_13 : decode cX11_program 13 = .ok (.iconst 1, 1) := by decide +kernel
theorem dX11_program_14 : decode cX11_program 14 = .ok (.invokevirtual 99, 3) := by decide +kernel
theorem dX11_program_17 : decode cX11_program 17 = .ok (.ireturn, 1) := by decide +kernel
theorem dX11_program_18 : decode cX11_program 18 = .ok (.aload_n 0, 1) := by decide +kernel
theorem dX11_program_19 : decode cX11_program 19 = .ok (.iconst 0, 1) := by decide +kernel
theorem dX11_program_20 : decode cX11_program 20 = .ok (.putfield 80, 3) := by decide +kernel
theorem dX11_program_23 : decode cX11_program 23 = .ok (.aload_n 0, 1) := by decide +kernel
theorem dX11_program_24 : decode cX11_program 24 = .ok (.aload_n 0, 1) := by decide +kernel
theorem dX11_program_25 : decode cX11_program 25 = .ok (.getfield 16, 3) := by decide +kernel
theorem dX11_program_28 : decode cX11_program 28 = .ok (.aload_n 0, 1) := by decide +kernel
theorem dX11_program_29 : decode cX11_program 29 = .ok (.getfield 9, 3) := by decide +kernel
theorem dX11_program_32 : decode cX11_program 32 = .ok (.iload_n 1, 1) := by decide +kernel
theorem dX11_program_33 : decode cX11_program 33 = .ok (.aload_n 0, 1) := by decide +kernel
theorem dX11_program_34 : decode cX11_program 34 = .ok (.getfield 77, 3) := by decide +kernel
theorem dX11_program_37 : decode cX11_program 37 = .ok (.invokevirtual 103, 3) := by decide +kernel
theorem dX11_program_40 : decode cX11_program 40 = .ok (.putfield 84, 3) := by decide +kernel
theorem dX11_program_43 : decode cX11_program 43 = .ok (.aload_n 0, 1) := by decide +kernel
theorem dX11_program_44 : decode cX11_program 44 = .ok (.getfield 84, 3) := by decide +kernel
theorem dX11_program_47 : decode cX11_program 47 = .ok (.ifCond .eq 9, 3) := by decide +kernel
theorem dX11_program_50 : decode cX11_program 50 = .ok (.aload_n 0, 1) := by decide +kernel
theorem dX11_program_51 : decode cX11_program 51 = .ok (.iconst 3, 1) := by decide +kernel
theorem dX11_program_52 : decode cX11_program 52 = .ok (.invokevirtual 99, 3) := by decide +kernel
theorem dX11_program_55 : decode cX11_program 55 = .ok (.ireturn, 1) := by decide +kernel
theorem dX11_program_56 : decode cX11_program 56 = .ok (.aload_n 0, 1) := by decide +kernel
theorem dX11_program_57 : decode cX11_program 57 = .ok (.getfield 73, 3) := by decide +kernel
theorem dX11_program_60 : decode cX11_program 60 = .ok (.astore_n 2, 1) := by decide +kernel
theorem dX11_program_61 : decode cX11_program 61 = .ok (.aload_n 0, 1) := by decide +kernel
theorem dX11_program_62 : decode cX11_program 62 = .ok (.aload_n 0, 1) := by decide +kernel
theorem dX11_program_63 : decode cX11_program 63 = .ok (.getfield 77, 3) := by decide +kernel
theorem dX11_program_66 : decode cX11_program 66 = .ok (.putfield 73, 3) := by decide +kernel
theorem dX11_program_69 : decode cX11_program 69 = .ok (.aload_n 0, 1) := by decide +kernel
theorem dX11_program_70 : decode cX11_program 70 = .ok (.aload_n 2, 1) := by decide +kernel
theorem dX11_program_71 : decode cX11_program 71 = .ok (.putfield 77, 3) := by decide +kernel
theorem dX11_program_74 : decode cX11_program 74 = .ok (.aload_n 0, 1) := by decide +kernel
theorem dX11_program_75 : decode cX11_program 75 = .ok (.aload_n 0, 1) := by decide +kernel
theorem dX11_program_76 : decode cX11_program 76 = .ok (.getfield 73, 3) := by decide +kernel
theorem dX11_program_79 : decode cX11_program 79 = .ok (.getfield 107, 3) := by decide +kernel
theorem dX11_program_82 : decode cX11_program 82 = .ok (.invokevirtual 110, 3) := by decide +kernel
theorem dX11_program_85 : decode cX11_program 85 = .ok (.ireturn, 1) := by decide +kernel
theorem dX11_fault_0 : decode cX11_fault 0 = .ok (.aload_n 0, 1) := by decide +kernel
theorem dX11_fault_1 : decode cX11_fault 1 = .ok (.getfield 84, 3) := by decide +kernel
theorem dX11_fault_4 : decode cX11_fault 4 = .ok (.ireturn, 1) := by decide +kernel
theorem dX11_where_0 : decode cX11_where 0 = .ok (.aload_n 0, 1) := by decide +kernel
theorem dX11_where_1 : decode cX11_where 1 = .ok (.getfield 93, 3) := by decide +kernel
theorem dX11_where_4 : decode cX11_where 4 = .ok (.iconst 3, 1) := by decide +kernel
theorem dX11_where_5 : decode cX11_where 5 = .ok (.if_icmp .ne 13, 3) := by decide +kernel
theorem dX11_where_8 : decode cX11_where 8 = .ok (.aload_n 0, 1) := by decide +kernel
theorem dX11_where_9 : decode cX11_where 9 = .ok (.getfield 16, 3) := by decide +kernel
theorem dX11_where_12 : decode cX11_where 12 = .ok (.getfield 113, 3) := by decide +kernel
theorem dX11_where_15 : decode cX11_where 15 = .ok (.goto 4, 3) := by decide +kernel
theorem dX11_where_18 : decode cX11_where 18 = .ok (.iconst (-1), 1) := by decide +kernel
theorem dX11_where_19 : decode cX11_where 19 = .ok (.ireturn, 1) := by decide +kernel
theorem dX11_order_0 : decode cX11_order 0 = .ok (.iload_n 1, 1) := by decide +kernel
theorem dX11_order_1 : decode cX11_order 1 = .ok (.ifCond .lt 14, 3) := by decide +kernel
theorem dX11_order_4 : decode cX11_order 4 = .ok (.iload_n 1, 1) := by decide +kernel
theorem dX11_order_5 : decode cX11_order 5 = .ok (.aload_n 0, 1) := by decide +kernel
theorem dX11_order_6 : decode cX11_order 6 = .ok (.getfield 73, 3) := by decide +kernel
theorem dX11_order_9 : decode cX11_order 9 = .ok (.getfield 107, 3) := by decide +kernel
theorem dX11_order_12 : decode cX11_order 12 = .ok (.if_icmp .lt 5, 3) := by decide +kernel
theorem dX11_order_15 : decode cX11_order 15 = .ok (.iconst (-1), 1) := by decide +kernel
theorem dX11_order_16 : decode cX11_order 16 = .ok (.ireturn, 1) := by decide +kernel
theorem dX11_order_17 : decode cX11_order 17 = .ok (.iload_n 2, 1) := by decide +kernel
theorem dX11_order_18 : decode cX11_order 18 = .ok (.tableswitch 64 0 2 #[26, 38, 47], 26) := by decide +kernel
