set_option maxRecDepth 20000 in
theorem lwi_X14 : ∀ w ∈ wsX140, w ∈ lw_tbl := mem_ps [1069, 1071, 1073, 1075, 1077, 1079, 1081, 1083, 1085, 1087, 1089, 1091, 1093, 1095, 1097, 1099, 1101, 1103, 1105, 1107, 1109, 1111, 1113, 1115, 1117, 1119, 1121, 1123, 1125, 1127, 1129, 1131, 1133, 1135, 1137, 1139, 1141, 1143, 1145, 1147, 1149, 1151, 1153, 1155, 1157, 1159, 1161, 1163, 1165, 1167, 1169, 1171, 1173, 1175, 1177] rfl
set_option maxRecDepth 20000 in
theorem lwi_X9 : ∀ w ∈ wsX90, w ∈ lw_tbl := mem_ps [112, 114, 116, 118, 120, 122, 124, 126, 128, 130, 132, 134, 136] rfl
set_option maxRecDepth 20000 in
theorem lwi_X3 : ∀ w ∈ wsX30, w ∈ lw_tbl := mem_ps [149, 151] rfl
set_option maxRecDepth 20000 in
theorem lwi_X7 : ∀ w ∈ wsX70, w ∈ lw_tbl := mem_ps [165] rfl
set_option maxRecDepth 20000 in
theorem lwi_X2 : ∀ w ∈ wsX20, w ∈ lw_tbl := mem_ps [178, 180, 182, 184] rfl
set_option maxRecDepth 20000 in
theorem lwi_X4 : ∀ w ∈ wsX40, w ∈ lw_tbl := mem_ps [194] rfl
set_option maxRecDepth 20000 in
theorem lwi_X10 : ∀ w ∈ wsX100, w ∈ lw_tbl := mem_ps [211, 213, 215, 217, 219, 221, 223, 225] rfl
set_option maxRecDepth 20000 in
theorem lwi_X6 : ∀ w ∈ wsX60, w ∈ lw_tbl := mem_ps [266, 268, 270, 272, 274, 276, 278, 280, 282, 284, 286, 288, 290, 292, 294, 296, 298] rfl
set_option maxRecDepth 20000 in
theorem lwi_X8 : ∀ w ∈ wsX80, w ∈ lw_tbl := mem_ps [314, 316, 318, 320] rfl
set_option maxRecDepth 20000 in
theorem lwi_X12 : ∀ w ∈ wsX120, w ∈ lw_tbl := mem_ps [948, 950, 952, 954, 956, 958, 960, 962, 964] rfl
set_option maxRecDepth 20000 in
theorem lwi_X13 : ∀ w ∈ wsX130, w ∈ lw_tbl := mem_ps [972, 973, 974, 975, 976, 995, 991, 993] rfl
theorem wsL_law_in0 : ∀ w ∈ wsL_law0, w ∈ lw_tbl := fun w => fun h => (List.mem_append.mp h).elim (fun h => (List.mem_append.mp h).elim (fun h => (List.mem_append.mp h).elim (fun h => (List.mem_append.mp h).elim (fun h => (List.mem_append.mp h).elim (fun h => (List.mem_append.mp h).elim (fun h => (List.mem_append.mp h).elim (fun h => (List.mem_append.mp h).elim (fun h => (List.mem_append.mp h).elim (fun h => (List.mem_append.mp h).elim (fun h => (List.mem_append.mp h).elim (fun h => (List.mem_append.mp h).elim (fun h => (List.mem_append.mp h).elim (fun h => (List.mem_append.mp h).elim (lwi_r1 w) (fun h => (List.mem_append.mp h).elim (lwi_r2 w) (fun h => (List.mem_append.mp h).elim (lwi_r3 w) (fun h => (List.mem_append.mp h).elim (lwi_r4 w) (fun h => (List.mem_append.mp h).elim (lwi_r5 w) (fun h => (List.mem_append.mp h).elim (lwi_r6 w) (fun h => (List.mem_append.mp h).elim (lwi_r7 w) (fun h => (List.mem_append.mp h).elim (lwi_r8 w) (fun h => (List.mem_append.mp h).elim (lwi_r9 w) (fun h => (List.mem_append.mp h).elim (lwi_r10 w) (fun h => (List.mem_append.mp h).elim (lwi_r11 w) (fun h => (List.mem_append.mp h).elim (lwi_r12 w) (fun h => (List.mem_append.mp h).elim (lwi_r13 w) (fun h => (List.mem_append.mp h).elim (lwi_r14 w) (fun h => (List.mem_append.mp h).elim (lwi_r15 w) (fun h => (List.mem_append.mp h).elim (lwi_r16 w) (fun h => (List.mem_append.mp h).elim (lwi_r17 w) (fun h => (List.mem_append.mp h).elim (lwi_r18 w) (fun h => (List.mem_append.mp h).elim (lwi_r19 w) (fun h => (List.mem_append.mp h).elim (lwi_r20 w) (fun h => (List.mem_append.mp h).elim (lwi_r21 w) (fun h => (List.mem_append.mp h).elim (lwi_r22 w) (fun h => (List.mem_append.mp h).elim (lwi_r23 w) (fun h => (List.mem_append.mp h).elim (lwi_r24 w) (fun h => (List.mem_append.mp h).elim (lwi_r25 w) (fun h => (List.mem_append.mp h).elim (lwi_r26 w) (fun h => (List.mem_append.mp h).elim (lwi_r27 w) (fun h => (List.mem_append.mp h).elim (lwi_r28 w) (fun h => (List.mem_append.mp h).elim (lwi_r29 w) (fun h => (List.mem_append.mp h).elim (lwi_r30 w) (fun h => (List.mem_append.mp h).elim (lwi_r31 w) (fun h => (List.mem_append.mp h).elim (lwi_r32 w) (fun h => (List.mem_append.mp h).elim (lwi_r33 w) (fun h => (List.mem_append.mp h).elim (lwi_r34 w) (fun h => (List.mem_append.mp h).elim (lwi_r35 w) (fun h => (List.mem_append.mp h).elim (lwi_r36 w) (fun h => (List.mem_append.mp h).elim (lwi_r37 w) (fun h => lwi_r38 w h)))))))))))))))))))))))))))))))))))))) (lwi_X11 w)) (lwi_X14 w)) (lwi_X9 w)) (lwi_X3 w)) (lwi_X7 w)) (lwi_X2 w)) (lwi_X4 w)) (lwi_X10 w)) (lwi_X6 w)) (lwi_X8 w)) (lwi_X12 w)) (lwi_X13 w)) (fun h => absurd h List.not_mem_nil)
