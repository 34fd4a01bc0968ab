set_option maxRecDepth 20000 in
theorem lwi_r14 : ∀ w ∈ wsL_law0_r14, w ∈ lw_tbl := mem_ps [78, 494, 495, 496, 497, 498, 499, 500, 501, 502, 503, 504, 505, 507, 509, 511, 513, 13, 514, 515, 517, 14, 518, 519] (by decide +kernel)
set_option maxRecDepth 20000 in
theorem lwi_r15 : ∀ w ∈ wsL_law0_r15, w ∈ lw_tbl := mem_ps [520, 521, 522, 523, 525, 15, 526, 527, 528, 529, 530, 536, 531, 532, 533, 534, 538, 539, 540, 541, 542, 544, 16, 545] (by decide +kernel)
set_option maxRecDepth 20000 in
theorem lwi_r16 : ∀ w ∈ wsL_law0_r16, w ∈ lw_tbl := mem_ps [1188, 1189, 1190, 1191, 1024, 1025, 1017, 1015, 1020, 1192, 1194, 38, 1195, 1196, 1198, 39, 1199, 1026, 1200, 1202, 40, 1203, 1027, 1028] (by decide +kernel)
set_option maxRecDepth 20000 in
theorem lwi_r17 : ∀ w ∈ wsL_law0_r17, w ∈ lw_tbl := mem_ps [1030, 1211, 1029, 1204, 1206, 41, 1207, 1208, 1209, 1210, 1212, 1213, 1214, 1215, 1217, 42, 1218, 1223, 1225, 44, 1226, 1227, 1228, 1229] (by decide +kernel)
set_option maxRecDepth 20000 in
theorem lwi_r18 : ∀ w ∈ wsL_law0_r18, w ∈ lw_tbl := mem_ps [1230, 932, 1231, 1233, 45, 1234, 1235, 1236, 1237, 1238, 1239, 1240, 1242, 46, 1243, 546, 547, 548, 549, 1244, 1245, 1246, 1247, 550] (by decide +kernel)
set_option maxRecDepth 20000 in
theorem lwi_r19 : ∀ w ∈ wsL_law0_r19, w ∈ lw_tbl := mem_ps [551, 552, 553, 1248, 1249, 1250, 1251, 554, 555, 556, 557, 1408, 558, 559, 560, 561, 562, 563, 564, 565, 566, 1252, 1253, 1254] (by decide +kernel)
set_option maxRecDepth 20000 in
theorem lwi_r20 : ∀ w ∈ wsL_law0_r20, w ∈ lw_tbl := mem_ps [1255, 567, 568, 569, 570, 1256, 1257, 1258, 1259, 1032, 571, 572, 573, 574, 575, 576, 577, 578, 579, 580, 581, 582, 583, 584] (by decide +kernel)
set_option maxRecDepth 20000 in
theorem lwi_r21 : ∀ w ∈ wsL_law0_r21, w ∈ lw_tbl := mem_ps [585, 586, 587, 588, 1260, 1261, 1262, 1263, 1033, 1264, 1265, 1266, 589, 590, 591, 592, 593, 594, 595, 596, 1267, 1268, 1269, 1270] (by decide +kernel)
set_option maxRecDepth 20000 in
theorem lwi_r22 : ∀ w ∈ wsL_law0_r22, w ∈ lw_tbl := mem_ps [597, 598, 599, 600, 601, 602, 603, 604, 605, 607, 17, 608, 1409, 609, 610, 611, 613, 1271, 1272, 1273, 1274, 1275, 1277, 47] (by decide +kernel)
set_option maxRecDepth 20000 in
theorem lwi_r23 : ∀ w ∈ wsL_law0_r23, w ∈ lw_tbl := mem_ps [1278, 614, 615, 616, 617, 618, 620, 18, 621, 622, 624, 19, 625, 626, 627, 628, 629, 630, 632, 20, 633, 634, 635, 81] (by decide +kernel)
set_option maxRecDepth 20000 in
theorem lwi_r24 : ∀ w ∈ wsL_law0_r24, w ∈ lw_tbl := mem_ps [636, 637, 639, 21, 640, 641, 643, 644, 645, 646, 647, 648, 649, 650, 651, 652, 653, 654, 655, 656, 657, 658, 659, 661] (by decide +kernel)
set_option maxRecDepth 20000 in
theorem lwi_r25 : ∀ w ∈ wsL_law0_r25, w ∈ lw_tbl := mem_ps [22, 662, 1410, 1411, 663, 664, 665, 667, 23, 668, 746, 1418, 753, 669, 670, 672, 24, 673, 674, 676, 677, 679, 680, 79] (by decide +kernel)
set_option maxRecDepth 20000 in
theorem lwi_r26 : ∀ w ∈ wsL_law0_r26, w ∈ lw_tbl := mem_ps [681, 1412, 682, 683, 684, 685, 686, 688, 25, 689, 690, 692, 26, 693, 694, 696, 27, 697, 698, 700, 28, 701, 702, 704] (by decide +kernel)
