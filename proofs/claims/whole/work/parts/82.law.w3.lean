set_option maxRecDepth 20000 in
theorem wsL_law_r40_in : ∀ w ∈ wsL_law_r40, w ∈ lw_tbl := mem_r [1378, 1379, 830, 831, 832, 833, 834, 835, 836, 837, 838, 839, 840, 841, 842, 1380, 1381, 1382, 1383, 1384, 1386, 68, 1387, 843] rfl
set_option maxRecDepth 20000 in
theorem wsL_law_r41_in : ∀ w ∈ wsL_law_r41, w ∈ lw_tbl := mem_r [844, 845, 846, 847, 1388, 1389, 1390, 1391, 848, 849, 850, 851, 852, 853, 854, 855, 1392, 1393, 1394, 1395, 1396, 1398, 69, 1399] rfl
set_option maxRecDepth 20000 in
theorem wsL_law_r42_in : ∀ w ∈ wsL_law_r42, w ∈ lw_tbl := mem_r [856, 857, 858, 859, 860, 861, 862, 863, 864, 1400, 1401, 1402, 1403, 865, 866, 867, 868, 869, 870, 871, 872, 1404, 1405, 1406] rfl
set_option maxRecDepth 20000 in
theorem wsL_law_r43_in : ∀ w ∈ wsL_law_r43, w ∈ lw_tbl := mem_r [1407, 873, 874, 875, 876, 877, 878, 879, 880, 256, 257, 258, 259, 261, 881, 883, 17, 884, 885, 888, 890, 18, 896, 898] rfl
set_option maxRecDepth 20000 in
theorem wsL_law_r44_in : ∀ w ∈ wsL_law_r44, w ∈ lw_tbl := mem_r [20, 891, 892, 894, 19, 895, 899, 1408, 1409, 1410, 1411, 1009, 1010, 1011, 1412, 1414, 70, 1415, 1416, 1418, 71, 1419, 1420, 1422] rfl
set_option maxRecDepth 20000 in
theorem wsL_law_r45_in : ∀ w ∈ wsL_law_r45, w ∈ lw_tbl := mem_r [72, 1423, 1424, 1426, 73, 1427, 1428, 1429, 1430, 1431, 1433, 74, 1434, 1435, 1437, 75, 1438, 1439, 1441, 76, 1442, 900, 901, 902] rfl
set_option maxRecDepth 20000 in
theorem wsL_law_r46_in : ∀ w ∈ wsL_law_r46, w ∈ lw_tbl := mem_r [903, 1443, 1444, 1445, 1446, 904, 905, 906, 907, 908, 909, 910, 911, 912, 913, 914, 1447, 1448, 1449, 1450, 1451, 1452, 1453, 915] rfl
set_option maxRecDepth 20000 in
theorem wsL_law_r47_in : ∀ w ∈ wsL_law_r47, w ∈ lw_tbl := mem_r [916, 917, 918, 919, 920, 921, 922, 1454, 1455, 1456, 1457, 923, 924, 925, 926, 927, 928, 929, 930, 931, 932, 933, 934, 935] rfl
set_option maxRecDepth 20000 in
theorem wsL_law_r48_in : ∀ w ∈ wsL_law_r48, w ∈ lw_tbl := mem_r [1458, 1459, 1460, 1461, 936, 937, 938, 939, 940, 941, 942, 943, 1462, 1463, 1464, 1465, 944, 945, 946, 947, 301, 302, 948, 949] rfl
set_option maxRecDepth 20000 in
theorem wsL_law_r49_in : ∀ w ∈ wsL_law_r49, w ∈ lw_tbl := mem_r [950, 951, 194, 952, 953, 954, 955, 956, 957, 958, 959, 960, 1466, 1467, 1468, 1469, 994, 961, 962, 963, 964, 1470, 1471, 1472] rfl
set_option maxRecDepth 20000 in
theorem wsL_law_r50_in : ∀ w ∈ wsL_law_r50, w ∈ lw_tbl := mem_r [1473, 965, 966, 967, 968, 1474, 1475, 1476, 1477, 969, 970, 971, 972, 973, 974, 975, 976, 977, 1478, 1479, 1480, 1481, 978, 979] rfl
set_option maxRecDepth 20000 in
theorem wsL_law_r51_in : ∀ w ∈ wsL_law_r51, w ∈ lw_tbl := mem_r [980, 981, 1482, 1483, 1484, 1485, 982, 983, 984, 985, 1486, 1487, 1488, 1489] rfl
