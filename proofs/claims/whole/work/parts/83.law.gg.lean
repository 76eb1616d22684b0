set_option maxRecDepth 20000 in
theorem ggL_law_X6_writerIs : GoodIn wsL_law wsX6_writerIs := goodIn_r _ [842, 16, 325, 134, 2, 135, 104, 105, 106, 107, 30, 108, 843, 692, 693, 39, 694, 54, 49, 695, 449, 450, 451, 55, 844, 845, 846, 847, 133, 848, 823, 824, 825, 826, 50, 195, 196, 193, 197, 191, 192, 194, 849, 850, 851, 852, 52, 853, 154, 155, 156, 48, 157, 158, 159, 854, 855, 856, 857, 1214, 1215, 1216, 1217, 1218, 1219, 1220, 1245, 1246, 1247, 1248, 1249, 1250, 1251, 1252, 1253, 1269, 1270, 1271, 1272, 1273, 1274, 1275, 1276, 1277, 1278] (by decide +kernel) (by decide +kernel)
set_option maxRecDepth 20000 in
theorem gL_law_X6_writerIs : GoodIn wsL_law (wsV RL 112 RX6 yX6_writerIs wsX6_writerIs) := goodIn_app (goodIn_of _ (by decide +kernel)) ggL_law_X6_writerIs
set_option maxRecDepth 20000 in
theorem ggL_law_X7_writerIs : GoodIn wsL_law wsX7_writerIs := goodIn_r _ [861, 85, 94, 239, 240, 5, 241, 113, 114, 115, 116, 117, 118, 119, 87, 120, 313, 314, 315, 316, 317, 318, 319, 320, 246, 247, 248, 249, 293, 294, 295, 296, 862, 863, 864, 865, 262, 263, 264, 265, 720, 721, 722, 723, 242, 243, 244, 245, 297, 298, 299, 300, 258, 259, 260, 261, 266, 267, 268, 831, 832, 833, 834, 835, 836, 837, 838, 1221, 1222, 1223, 1224, 1225, 1226, 1227, 1228, 1229, 1230, 1231, 1232, 1233, 1234, 1235, 1236, 1237, 1238, 1239, 1240, 1241, 1242, 1243, 1244] (by decide +kernel) (by decide +kernel)
set_option maxRecDepth 20000 in
theorem gL_law_X7_writerIs : GoodIn wsL_law (wsV RL 115 RX7 yX7_writerIs wsX7_writerIs) := goodIn_app (goodIn_of _ (by decide +kernel)) ggL_law_X7_writerIs
set_option maxRecDepth 20000 in
theorem ggL_law_X6_read : GoodIn wsL_law wsX6_read := goodIn_r _ [869, 16, 104, 105, 106, 2, 107, 30, 108, 870, 871, 872, 39, 873, 133, 50, 1214, 1215, 1216, 1217, 1218, 1219, 1220, 1245, 1246, 1247, 1248, 1249, 1250, 1251, 1252, 1253, 1269, 1270, 1271, 1272, 1273, 1274, 1275, 1276, 1277, 1278] (by decide +kernel) (by decide +kernel)
set_option maxRecDepth 20000 in
theorem gL_law_X6_read : GoodIn wsL_law (wsV RL 116 RX6 yX6_read wsX6_read) := goodIn_app (goodIn_of _ (by decide +kernel)) ggL_law_X6_read
set_option maxRecDepth 20000 in
theorem ggL_law_X7_read : GoodIn wsL_law wsX7_read := goodIn_r _ [877, 85, 113, 114, 5, 115, 878, 879, 880, 881, 262, 263, 264, 265, 116, 117, 118, 119, 87, 120, 1221, 1222, 1223, 1224, 1225, 1226, 1227, 1228, 1229, 1230, 1231, 1232, 1233, 1234, 1235, 1236, 1237, 1238, 1239, 1240, 1241, 1242, 1243, 1244] (by decide +kernel) (by decide +kernel)
set_option maxRecDepth 20000 in
theorem gL_law_X7_read : GoodIn wsL_law (wsV RL 119 RX7 yX7_read wsX7_read) := goodIn_app (goodIn_of _ (by decide +kernel)) ggL_law_X7_read
set_option maxRecDepth 20000 in
theorem ggL_law_X6_wrong : GoodIn wsL_law wsX6_wrong := goodIn_r _ [885, 16, 349, 350, 351, 2, 352, 886, 887, 888, 889, 104, 105, 106, 107, 30, 108, 890, 891, 892, 15, 893, 40, 894, 211, 212, 39, 213, 54, 214, 215, 216, 217, 55, 895, 824, 825, 826, 50, 195, 196, 193, 197, 133, 191, 192, 194, 1214, 1215, 1216, 1217, 1218, 1219, 1220, 1245, 1246, 1247, 1248, 1249, 1250, 1251, 1252, 1253, 1269, 1270, 1271, 1272, 1273, 1274, 1275, 1276, 1277, 1278] (by decide +kernel) (by decide +kernel)
set_option maxRecDepth 20000 in
theorem gL_law_X6_wrong : GoodIn wsL_law (wsV RL 120 RX6 yX6_wrong wsX6_wrong) := goodIn_app (goodIn_of _ (by decide +kernel)) ggL_law_X6_wrong
set_option maxRecDepth 20000 in
theorem ggL_law_X7_wrong : GoodIn wsL_law wsX7_wrong := goodIn_r _ [899, 85, 358, 359, 360, 5, 361, 113, 114, 115, 900, 901, 902, 903, 116, 117, 118, 119, 87, 120, 317, 318, 319, 320, 246, 247, 248, 249, 293, 294, 295, 296, 904, 905, 906, 907, 262, 263, 264, 265, 1221, 1222, 1223, 1224, 1225, 1226, 1227, 1228, 1229, 1230, 1231, 1232, 1233, 1234, 1235, 1236, 1237, 1238, 1239, 1240, 1241, 1242, 1243, 1244] (by decide +kernel) (by decide +kernel)
set_option maxRecDepth 20000 in
theorem gL_law_X7_wrong : GoodIn wsL_law (wsV RL 123 RX7 yX7_wrong wsX7_wrong) := goodIn_app (goodIn_of _ (by decide +kernel)) ggL_law_X7_wrong
set_option maxRecDepth 20000 in
theorem ggL_law_X6_hand : GoodIn wsL_law wsX6_hand := goodIn_r _ [911, 16, 912, 192, 193, 194, 325, 134, 2, 135, 104, 105, 106, 107, 30, 108, 913, 161, 162, 39, 163, 133, 49, 914, 915, 916, 917, 191, 918, 919, 920, 921, 50, 1214, 1215, 1216, 1217, 1218, 1219, 1220, 1245, 1246, 1247, 1248, 1249, 1250, 1251, 1252, 1253, 1269, 1270, 1271, 1272, 1273, 1274, 1275, 1276, 1277, 1278] (by decide +kernel) (by decide +kernel)
set_option maxRecDepth 20000 in
theorem gL_law_X6_hand : GoodIn wsL_law (wsV RL 124 RX6 yX6_hand wsX6_hand) := goodIn_app (goodIn_of _ (by decide +kernel)) ggL_law_X6_hand
set_option maxRecDepth 20000 in
theorem ggL_law_X7_hand : GoodIn wsL_law wsX7_hand := goodIn_r _ [925, 239, 240, 5, 241, 113, 114, 115, 116, 117, 118, 119, 87, 120, 269, 270, 271, 272, 85, 262, 263, 264, 265, 926, 927, 928, 929, 1221, 1222, 1223, 1224, 1225, 1226, 1227, 1228, 1229, 1230, 1231, 1232, 1233, 1234, 1235, 1236, 1237, 1238, 1239, 1240, 1241, 1242, 1243, 1244] (by decide +kernel) (by decide +kernel)
set_option maxRecDepth 20000 in
theorem gL_law_X7_hand : GoodIn wsL_law (wsV RL 127 RX7 yX7_hand wsX7_hand) := goodIn_app (goodIn_of _ (by decide +kernel)) ggL_law_X7_hand
