set_option maxRecDepth 20000 in
theorem lwi_r27 : ∀ w ∈ wsL_law0_r27, w ∈ lw_tbl := mem_ps [705, 706, 707, 708, 709, 710, 1413, 1414, 711, 712, 713, 714, 715, 716, 724, 717, 718, 719, 720, 722, 29, 723, 726, 728] (by decide +kernel)
set_option maxRecDepth 20000 in
theorem lwi_r28 : ∀ w ∈ wsL_law0_r28, w ∈ lw_tbl := mem_ps [30, 729, 730, 732, 31, 733, 734, 736, 32, 737, 738, 740, 33, 741, 742, 743, 744, 80, 745, 1415, 1416, 1417, 747, 749] (by decide +kernel)
set_option maxRecDepth 20000 in
theorem lwi_r29 : ∀ w ∈ wsL_law0_r29, w ∈ lw_tbl := mem_ps [34, 750, 754, 756, 35, 757, 758, 760, 761, 759, 767, 762, 763, 759, 764, 765, 766, 1279, 1280, 1281, 1282, 1051, 1052, 1053] (by decide +kernel)
set_option maxRecDepth 20000 in
theorem lwi_r30 : ∀ w ∈ wsL_law0_r30, w ∈ lw_tbl := mem_ps [1054, 1040, 1055, 1041, 1056, 1042, 1057, 1044, 1058, 1045, 1059, 1060, 1043, 1283, 1285, 48, 1286, 1287, 1289, 49, 1290, 1303, 1291, 1293] (by decide +kernel)
set_option maxRecDepth 20000 in
theorem lwi_r31 : ∀ w ∈ wsL_law0_r31, w ∈ lw_tbl := mem_ps [50, 1294, 1295, 1297, 1299, 1301, 51, 1302, 1304, 1306, 52, 1307, 1308, 1310, 53, 1311, 1312, 1313, 1314, 1315, 1316, 1317, 1318, 1320] rfl
set_option maxRecDepth 20000 in
theorem lwi_r32 : ∀ w ∈ wsL_law0_r32, w ∈ lw_tbl := mem_ps [54, 1321, 768, 769, 770, 771, 1322, 1323, 1324, 1325, 836, 837, 56, 838, 839, 840, 841, 842, 843, 844, 83, 1326, 1327, 1328] (by decide +kernel)
set_option maxRecDepth 20000 in
theorem lwi_r33 : ∀ w ∈ wsL_law0_r33, w ∈ lw_tbl := mem_ps [1329, 1330, 1180, 1181, 1182, 1183, 911, 912, 913, 914, 915, 916, 917, 1331, 1332, 1333, 1334, 772, 773, 774, 775, 776, 1335, 1336] (by decide +kernel)
set_option maxRecDepth 20000 in
theorem lwi_r34 : ∀ w ∈ wsL_law0_r34, w ∈ lw_tbl := mem_ps [1337, 1338, 777, 778, 779, 780, 1339, 1340, 1341, 1342, 781, 782, 783, 784, 1343, 1344, 1345, 1346, 785, 786, 787, 788, 789, 790] (by decide +kernel)
set_option maxRecDepth 20000 in
theorem lwi_r35 : ∀ w ∈ wsL_law0_r35, w ∈ lw_tbl := mem_ps [791, 792, 793, 794, 795, 1347, 1348, 1349, 1350, 796, 797, 798, 799, 1351, 1352, 1353, 1354, 800, 801, 802, 803, 1355, 1356, 1357] (by decide +kernel)
set_option maxRecDepth 20000 in
theorem lwi_r36 : ∀ w ∈ wsL_law0_r36, w ∈ lw_tbl := mem_ps [1358, 804, 805, 806, 807, 808, 810, 36, 811, 1359, 1360, 1361, 1362, 812, 813, 814, 815, 1363, 1364, 1365, 1366, 816, 817, 818] (by decide +kernel)
set_option maxRecDepth 20000 in
theorem lwi_r37 : ∀ w ∈ wsL_law0_r37, w ∈ lw_tbl := mem_ps [819, 820, 821, 822, 823, 1367, 1368, 1369, 1370, 1371, 1373, 55, 1374, 824, 825, 826, 827, 1375, 1376, 1377, 1378, 828, 829, 830] (by decide +kernel)
set_option maxRecDepth 20000 in
theorem lwi_r38 : ∀ w ∈ wsL_law0_r38, w ∈ lw_tbl := mem_ps [831, 1379, 1380, 1381, 1382, 832, 833, 834, 835, 1383, 1384, 1385, 1386] (by decide +kernel)
set_option maxRecDepth 20000 in
theorem lwi_X11 : ∀ w ∈ wsX110, w ∈ lw_tbl := mem_ps [340, 342, 344, 346, 348, 350, 352, 354, 356, 358, 360, 362, 364, 366, 368, 370, 372] (by decide +kernel)
