/-! ===== the words of the law among those of the tables, by their places (written by wip/whole/gen/mklaw.py) ===== -/
theorem mem_ps {big ws : List Cond} (ps : List Nat) (hp : ws = ps.filterMap (fun i => big[i]?)) : ∀ w ∈ ws, w ∈ big := by
  intro w hw
  rw [hp] at hw
  obtain ⟨i, -, hi⟩ := List.mem_filterMap.mp hw
  exact List.mem_of_getElem? hi
set_option maxRecDepth 20000 in
theorem lwi_r1 : ∀ w ∈ wsL_law0_r1, w ∈ lw_tbl := mem_ps [84, 85, 57, 919, 920, 67, 967, 86, 87, 88, 89, 90, 91, 139, 323, 92, 93, 58, 324, 140, 141, 59, 325, 155] (by decide +kernel)
set_option maxRecDepth 20000 in
theorem lwi_r2 : ∀ w ∈ wsL_law0_r2, w ∈ lw_tbl := mem_ps [156, 61, 326, 327, 168, 169, 62, 328, 187, 188, 63, 329, 197, 198, 64, 330, 228, 229, 65, 331, 332, 301, 302, 66] (by decide +kernel)
set_option maxRecDepth 20000 in
theorem lwi_r3 : ∀ w ∈ wsL_law0_r3, w ∈ lw_tbl := mem_ps [333, 334, 335, 336, 337, 338, 339, 95, 96, 97, 98, 99, 100, 101, 102, 103, 104, 105, 106, 107, 108, 109, 110, 143] (by decide +kernel)
set_option maxRecDepth 20000 in
theorem lwi_r4 : ∀ w ∈ wsL_law0_r4, w ∈ lw_tbl := mem_ps [144, 145, 154, 146, 147, 157, 158, 159, 164, 161, 60, 162, 163, 170, 171, 172, 175, 176, 177, 174, 190, 191, 193, 200] (by decide +kernel)
set_option maxRecDepth 20000 in
theorem lwi_r5 : ∀ w ∈ wsL_law0_r5, w ∈ lw_tbl := mem_ps [201, 203, 204, 205, 206, 207, 208, 209, 210, 231, 232, 233, 234, 236, 237, 239, 241, 243, 245, 247, 249, 251, 253, 255] (by decide +kernel)
set_option maxRecDepth 20000 in
theorem lwi_r6 : ∀ w ∈ wsL_law0_r6, w ∈ lw_tbl := mem_ps [257, 259, 261, 263, 264, 304, 305, 306, 307, 308, 309, 310, 921, 922, 923, 924, 1016, 925, 926, 68, 1018, 1019, 968, 969] (by decide +kernel)
set_option maxRecDepth 20000 in
theorem lwi_r7 : ∀ w ∈ wsL_law0_r7, w ∈ lw_tbl := mem_ps [72, 1021, 910, 1022, 997, 1031, 1034, 1035, 1036, 1037, 1038, 1039, 1046, 1047, 1048, 1049, 1050, 1061, 1062, 1063, 1064, 1065, 1066, 1067] (by decide +kernel)
set_option maxRecDepth 20000 in
theorem lwi_r8 : ∀ w ∈ wsL_law0_r8, w ∈ lw_tbl := mem_ps [1068, 928, 929, 930, 934, 936, 938, 940, 942, 944, 946, 977, 978, 979, 375, 376, 377, 378, 379, 381, 0, 382, 1184, 1185] (by decide +kernel)
set_option maxRecDepth 20000 in
theorem lwi_r9 : ∀ w ∈ wsL_law0_r9, w ∈ lw_tbl := mem_ps [1186, 1187, 1014, 1023, 383, 384, 385, 386, 387, 389, 1, 390, 391, 392, 393, 394, 395, 396, 73, 397, 398, 399, 400, 401] (by decide +kernel)
set_option maxRecDepth 20000 in
theorem lwi_r10 : ∀ w ∈ wsL_law0_r10, w ∈ lw_tbl := mem_ps [403, 402, 74, 404, 405, 406, 407, 408, 410, 2, 411, 412, 414, 3, 415, 416, 417, 418, 419, 420, 421, 422, 423, 424] (by decide +kernel)
set_option maxRecDepth 20000 in
theorem lwi_r11 : ∀ w ∈ wsL_law0_r11, w ∈ lw_tbl := mem_ps [425, 427, 4, 428, 429, 431, 5, 432, 433, 435, 6, 436, 437, 439, 7, 440, 441, 443, 8, 444, 445, 447, 9, 448] (by decide +kernel)
set_option maxRecDepth 20000 in
theorem lwi_r12 : ∀ w ∈ wsL_law0_r12, w ∈ lw_tbl := mem_ps [449, 451, 10, 452, 1407, 453, 455, 11, 456, 1404, 459, 461, 12, 462, 463, 464, 465, 75, 466, 1405, 467, 468, 469, 470] (by decide +kernel)
set_option maxRecDepth 20000 in
theorem lwi_r13 : ∀ w ∈ wsL_law0_r13, w ∈ lw_tbl := mem_ps [471, 1406, 473, 474, 475, 476, 477, 478, 479, 480, 481, 482, 76, 483, 484, 485, 486, 487, 489, 490, 77, 491, 492, 493] (by decide +kernel)
