set_option maxRecDepth 20000 in
theorem wsL_law_r27_in : ∀ w ∈ wsL_law_r27, w ∈ lw_tbl := mem_r [1001, 1231, 1233, 45, 1234, 1235, 1237, 46, 1255, 1257, 51, 1258, 1263, 1265, 53, 1266, 1238, 1239, 1241, 47, 1242, 1243, 1245, 48] rfl
set_option maxRecDepth 20000 in
theorem wsL_law_r28_in : ∀ w ∈ wsL_law_r28, w ∈ lw_tbl := mem_r [1254, 1259, 1261, 52, 1262, 1267, 1269, 54, 1270, 1251, 1253, 50, 1250, 1246, 1247, 1249, 49, 666, 667, 668, 669, 670, 671, 672] rfl
set_option maxRecDepth 20000 in
theorem wsL_law_r29_in : ∀ w ∈ wsL_law_r29, w ∈ lw_tbl := mem_r [673, 674, 1271, 1272, 1273, 1274, 675, 676, 677, 678, 679, 680, 681, 682, 683, 685, 12, 686, 687, 688, 689, 690, 691, 692] rfl
set_option maxRecDepth 20000 in
theorem wsL_law_r30_in : ∀ w ∈ wsL_law_r30, w ∈ lw_tbl := mem_r [693, 695, 13, 696, 697, 698, 699, 700, 701, 702, 703, 1275, 1276, 1277, 1278, 1279, 1281, 55, 1282, 1283, 1285, 56, 1286, 1287] rfl
set_option maxRecDepth 20000 in
theorem wsL_law_r31_in : ∀ w ∈ wsL_law_r31, w ∈ lw_tbl := mem_r [1288, 1290, 57, 1291, 1292, 1294, 58, 1295, 704, 705, 706, 707, 1296, 1297, 1298, 1299, 708, 709, 710, 711, 712, 1300, 1301, 1302] rfl
set_option maxRecDepth 20000 in
theorem wsL_law_r32_in : ∀ w ∈ wsL_law_r32, w ∈ lw_tbl := mem_r [1303, 713, 714, 715, 716, 717, 718, 719, 720, 1304, 1305, 1306, 1307, 1308, 1310, 59, 1311, 721, 722, 723, 724, 725, 726, 727] rfl
set_option maxRecDepth 20000 in
theorem wsL_law_r33_in : ∀ w ∈ wsL_law_r33, w ∈ lw_tbl := mem_r [728, 729, 1312, 1313, 1314, 1315, 730, 731, 732, 733, 734, 735, 736, 737, 738, 739, 740, 741, 742, 743, 744, 745, 1316, 1317] rfl
set_option maxRecDepth 20000 in
theorem wsL_law_r34_in : ∀ w ∈ wsL_law_r34, w ∈ lw_tbl := mem_r [1318, 1319, 1320, 1322, 60, 1323, 746, 747, 748, 749, 750, 751, 752, 753, 754, 1324, 1325, 1326, 1327, 755, 756, 757, 758, 759] rfl
set_option maxRecDepth 20000 in
theorem wsL_law_r35_in : ∀ w ∈ wsL_law_r35, w ∈ lw_tbl := mem_r [760, 761, 762, 763, 765, 14, 766, 767, 768, 769, 770, 1328, 1329, 1330, 1331, 1332, 1334, 61, 1335, 1336, 1338, 62, 1339, 771] rfl
set_option maxRecDepth 20000 in
theorem wsL_law_r36_in : ∀ w ∈ wsL_law_r36, w ∈ lw_tbl := mem_r [772, 773, 774, 775, 776, 777, 778, 779, 780, 781, 782, 783, 784, 785, 786, 787, 788, 789, 1340, 1341, 1342, 1343, 1344, 1346] rfl
set_option maxRecDepth 20000 in
theorem wsL_law_r37_in : ∀ w ∈ wsL_law_r37, w ∈ lw_tbl := mem_r [63, 1347, 790, 791, 792, 793, 794, 795, 796, 797, 1348, 1349, 1350, 1351, 1352, 1354, 64, 1355, 798, 799, 800, 801, 802, 804] rfl
set_option maxRecDepth 20000 in
theorem wsL_law_r38_in : ∀ w ∈ wsL_law_r38, w ∈ lw_tbl := mem_r [15, 805, 806, 807, 808, 809, 810, 811, 1356, 1357, 1358, 1359, 1360, 1362, 65, 1363, 1364, 1366, 66, 1367, 812, 813, 814, 815] rfl
set_option maxRecDepth 20000 in
theorem wsL_law_r39_in : ∀ w ∈ wsL_law_r39, w ∈ lw_tbl := mem_r [817, 816, 818, 819, 820, 821, 822, 824, 16, 825, 1368, 1369, 1370, 1371, 1372, 1374, 67, 1375, 826, 827, 828, 829, 1376, 1377] rfl
