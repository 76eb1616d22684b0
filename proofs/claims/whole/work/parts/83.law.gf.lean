set_option maxRecDepth 20000 in
theorem ggL_law_X6_from : GoodIn wsL_law wsX6_from := goodIn_r _ [764, 16, 349, 350, 351, 2, 352, 104, 105, 106, 107, 30, 108, 765, 766, 767, 39, 768, 769, 750, 751, 752, 54, 195, 196, 193, 197, 56, 214, 215, 216, 217, 55, 1214, 1215, 1216, 1217, 1218, 1219, 1220, 1245, 1246, 1247, 1248, 1249, 1250, 1251, 1252, 1253, 1269, 1270, 1271, 1272, 1273, 1274, 1275, 1276, 1277, 1278] (by decide +kernel) (by decide +kernel)
set_option maxRecDepth 20000 in
theorem gL_law_X6_from : GoodIn wsL_law (wsV RL 95 RX6 yX6_from wsX6_from) := goodIn_app (goodIn_of _ (by decide +kernel)) ggL_law_X6_from
set_option maxRecDepth 20000 in
theorem ggL_law_X7_from : GoodIn wsL_law wsX7_from := goodIn_r _ [773, 358, 359, 360, 5, 361, 85, 113, 114, 115, 116, 117, 118, 119, 87, 120, 757, 758, 759, 760, 93, 246, 247, 248, 249, 293, 294, 295, 296, 1221, 1222, 1223, 1224, 1225, 1226, 1227, 1228, 1229, 1230, 1231, 1232, 1233, 1234, 1235, 1236, 1237, 1238, 1239, 1240, 1241, 1242, 1243, 1244] (by decide +kernel) (by decide +kernel)
set_option maxRecDepth 20000 in
theorem gL_law_X7_from : GoodIn wsL_law (wsV RL 98 RX7 yX7_from wsX7_from) := goodIn_app (goodIn_of _ (by decide +kernel)) ggL_law_X7_from
set_option maxRecDepth 20000 in
theorem ggL_law_X6_war : GoodIn wsL_law wsX6_war := goodIn_r _ [777, 16, 414, 415, 416, 2, 417, 104, 105, 106, 107, 30, 108, 778, 779, 780, 39, 781, 52, 782, 783, 784, 785, 786, 787, 788, 789, 49, 1214, 1215, 1216, 1217, 1218, 1219, 1220, 1245, 1246, 1247, 1248, 1249, 1250, 1251, 1252, 1253, 1269, 1270, 1271, 1272, 1273, 1274, 1275, 1276, 1277, 1278] (by decide +kernel) (by decide +kernel)
set_option maxRecDepth 20000 in
theorem gL_law_X6_war : GoodIn wsL_law (wsV RL 99 RX6 yX6_war wsX6_war) := goodIn_app (goodIn_of _ (by decide +kernel)) ggL_law_X6_war
set_option maxRecDepth 20000 in
theorem ggL_law_X7_war : GoodIn wsL_law wsX7_war := goodIn_r _ [793, 422, 423, 424, 5, 425, 85, 113, 114, 115, 116, 117, 118, 119, 87, 120, 313, 314, 315, 316, 94, 317, 318, 319, 320, 246, 247, 248, 249, 293, 294, 295, 296, 794, 795, 796, 797, 262, 263, 264, 265, 1221, 1222, 1223, 1224, 1225, 1226, 1227, 1228, 1229, 1230, 1231, 1232, 1233, 1234, 1235, 1236, 1237, 1238, 1239, 1240, 1241, 1242, 1243, 1244] (by decide +kernel) (by decide +kernel)
set_option maxRecDepth 20000 in
theorem gL_law_X7_war : GoodIn wsL_law (wsV RL 102 RX7 yX7_war wsX7_war) := goodIn_app (goodIn_of _ (by decide +kernel)) ggL_law_X7_war
set_option maxRecDepth 20000 in
theorem ggL_law_X6_longest : GoodIn wsL_law wsX6_longest := goodIn_r _ [801, 16, 104, 105, 106, 2, 107, 30, 108, 802, 803, 804, 39, 805, 133, 806, 779, 780, 781, 52, 1214, 1215, 1216, 1217, 1218, 1219, 1220, 1245, 1246, 1247, 1248, 1249, 1250, 1251, 1252, 1253, 1269, 1270, 1271, 1272, 1273, 1274, 1275, 1276, 1277, 1278] (by decide +kernel) (by decide +kernel)
set_option maxRecDepth 20000 in
theorem gL_law_X6_longest : GoodIn wsL_law (wsV RL 103 RX6 yX6_longest wsX6_longest) := goodIn_app (goodIn_of _ (by decide +kernel)) ggL_law_X6_longest
set_option maxRecDepth 20000 in
theorem ggL_law_X7_longest : GoodIn wsL_law wsX7_longest := goodIn_r _ [810, 85, 116, 117, 118, 5, 119, 87, 120, 313, 314, 315, 316, 94, 317, 318, 319, 320, 246, 247, 248, 249, 293, 294, 295, 296, 794, 795, 796, 797, 262, 263, 264, 265, 1221, 1222, 1223, 1224, 1225, 1226, 1227, 1228, 1229, 1230, 1231, 1232, 1233, 1234, 1235, 1236, 1237, 1238, 1239, 1240, 1241, 1242, 1243, 1244] (by decide +kernel) (by decide +kernel)
set_option maxRecDepth 20000 in
theorem gL_law_X7_longest : GoodIn wsL_law (wsV RL 107 RX7 yX7_longest wsX7_longest) := goodIn_app (goodIn_of _ (by decide +kernel)) ggL_law_X7_longest
set_option maxRecDepth 20000 in
theorem ggL_law_X6_stays : GoodIn wsL_law wsX6_stays := goodIn_r _ [814, 16, 414, 415, 416, 2, 417, 104, 105, 106, 107, 30, 108, 815, 816, 817, 39, 818, 133, 819, 820, 821, 822, 54, 695, 449, 450, 451, 55, 823, 824, 825, 826, 50, 195, 196, 193, 197, 191, 192, 194, 1214, 1215, 1216, 1217, 1218, 1219, 1220, 1245, 1246, 1247, 1248, 1249, 1250, 1251, 1252, 1253, 1269, 1270, 1271, 1272, 1273, 1274, 1275, 1276, 1277, 1278] (by decide +kernel) (by decide +kernel)
set_option maxRecDepth 20000 in
theorem gL_law_X6_stays : GoodIn wsL_law (wsV RL 108 RX6 yX6_stays wsX6_stays) := goodIn_app (goodIn_of _ (by decide +kernel)) ggL_law_X6_stays
set_option maxRecDepth 20000 in
theorem ggL_law_X7_stays : GoodIn wsL_law wsX7_stays := goodIn_r _ [830, 422, 423, 424, 5, 425, 85, 113, 114, 115, 831, 832, 833, 834, 246, 247, 248, 249, 297, 298, 299, 300, 835, 836, 837, 838, 262, 263, 264, 265, 116, 117, 118, 119, 87, 120, 1221, 1222, 1223, 1224, 1225, 1226, 1227, 1228, 1229, 1230, 1231, 1232, 1233, 1234, 1235, 1236, 1237, 1238, 1239, 1240, 1241, 1242, 1243, 1244] (by decide +kernel) (by decide +kernel)
set_option maxRecDepth 20000 in
theorem gL_law_X7_stays : GoodIn wsL_law (wsV RL 111 RX7 yX7_stays wsX7_stays) := goodIn_app (goodIn_of _ (by decide +kernel)) ggL_law_X7_stays
