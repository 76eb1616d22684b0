set_option maxRecDepth 20000 in
theorem ggL_law_X6_score : GoodIn wsL_law wsX6_score := goodIn_r _ [933, 16, 414, 415, 416, 2, 417, 104, 105, 106, 107, 30, 108, 1214, 1215, 1216, 1217, 1218, 1219, 1220, 1245, 1246, 1247, 1248, 1249, 1250, 1251, 1252, 1253, 1269, 1270, 1271, 1272, 1273, 1274, 1275, 1276, 1277, 1278] (by decide +kernel) (by decide +kernel)
set_option maxRecDepth 20000 in
theorem gL_law_X6_score : GoodIn wsL_law (wsV RL 128 RX6 yX6_score wsX6_score) := goodIn_app (goodIn_of _ (by decide +kernel)) ggL_law_X6_score
set_option maxRecDepth 20000 in
theorem ggL_law_X7_score : GoodIn wsL_law wsX7_score := goodIn_r _ [937, 85, 422, 423, 424, 5, 425, 113, 114, 115, 116, 117, 118, 119, 87, 120, 262, 263, 264, 265, 1221, 1222, 1223, 1224, 1225, 1226, 1227, 1228, 1229, 1230, 1231, 1232, 1233, 1234, 1235, 1236, 1237, 1238, 1239, 1240, 1241, 1242, 1243, 1244] (by decide +kernel) (by decide +kernel)
set_option maxRecDepth 20000 in
theorem gL_law_X7_score : GoodIn wsL_law (wsV RL 131 RX7 yX7_score wsX7_score) := goodIn_app (goodIn_of _ (by decide +kernel)) ggL_law_X7_score
set_option maxRecDepth 20000 in
theorem ggL_law_X6_line : GoodIn wsL_law wsX6_line := goodIn_r _ [941, 16, 104, 105, 106, 2, 107, 30, 108, 942, 943, 944, 39, 945, 946, 947, 948, 949, 133, 53, 48, 157, 158, 159, 950, 1214, 1215, 1216, 1217, 1218, 1219, 1220, 1245, 1246, 1247, 1248, 1249, 1250, 1251, 1252, 1253, 1269, 1270, 1271, 1272, 1273, 1274, 1275, 1276, 1277, 1278] (by decide +kernel) (by decide +kernel)
set_option maxRecDepth 20000 in
theorem gL_law_X6_line : GoodIn wsL_law (wsV RL 132 RX6 yX6_line wsX6_line) := goodIn_app (goodIn_of _ (by decide +kernel)) ggL_law_X6_line
set_option maxRecDepth 20000 in
theorem ggL_law_X7_line : GoodIn wsL_law wsX7_line := goodIn_r _ [954, 113, 114, 5, 115, 116, 117, 118, 119, 87, 120, 955, 956, 957, 958, 85, 262, 263, 264, 265, 1221, 1222, 1223, 1224, 1225, 1226, 1227, 1228, 1229, 1230, 1231, 1232, 1233, 1234, 1235, 1236, 1237, 1238, 1239, 1240, 1241, 1242, 1243, 1244] (by decide +kernel) (by decide +kernel)
set_option maxRecDepth 20000 in
theorem gL_law_X7_line : GoodIn wsL_law (wsV RL 135 RX7 yX7_line wsX7_line) := goodIn_app (goodIn_of _ (by decide +kernel)) ggL_law_X7_line
set_option maxRecDepth 20000 in
theorem ggL_law_X6_worth : GoodIn wsL_law wsX6_worth := goodIn_r _ [962, 16, 963, 136, 2, 137, 104, 105, 106, 107, 30, 108, 1214, 1215, 1216, 1217, 1218, 1219, 1220, 1245, 1246, 1247, 1248, 1249, 1250, 1251, 1252, 1253] (by decide +kernel) (by decide +kernel)
set_option maxRecDepth 20000 in
theorem gL_law_X6_worth : GoodIn wsL_law (wsV RL 136 RX6 yX6_worth wsX6_worth) := goodIn_app (goodIn_of _ (by decide +kernel)) ggL_law_X6_worth
set_option maxRecDepth 20000 in
theorem ggL_law_X7_worth : GoodIn wsL_law wsX7_worth := goodIn_r _ [967, 85, 113, 114, 5, 115, 116, 117, 118, 119, 87, 120, 1221, 1222, 1223, 1224, 1225, 1226, 1227, 1228, 1229, 1230, 1231, 1232, 1233, 1234, 1235, 1236, 1237, 1238, 1239, 1240, 1241, 1242, 1243, 1244] (by decide +kernel) (by decide +kernel)
set_option maxRecDepth 20000 in
theorem gL_law_X7_worth : GoodIn wsL_law (wsV RL 139 RX7 yX7_worth wsX7_worth) := goodIn_app (goodIn_of _ (by decide +kernel)) ggL_law_X7_worth
set_option maxRecDepth 20000 in
theorem ggL_law_X6_value : GoodIn wsL_law wsX6_value := goodIn_r _ [971, 16, 349, 350, 351, 2, 352, 104, 105, 106, 107, 30, 108, 972, 973, 974, 15, 975, 40, 36, 332, 215, 216, 39, 217, 55, 1214, 1215, 1216, 1217, 1218, 1219, 1220, 1245, 1246, 1247, 1248, 1249, 1250, 1251, 1252, 1253, 1269, 1270, 1271, 1272, 1273, 1274, 1275, 1276, 1277, 1278] (by decide +kernel) (by decide +kernel)
set_option maxRecDepth 20000 in
theorem gL_law_X6_value : GoodIn wsL_law (wsV RL 140 RX6 yX6_value wsX6_value) := goodIn_app (goodIn_of _ (by decide +kernel)) ggL_law_X6_value
set_option maxRecDepth 20000 in
theorem ggL_law_X7_value : GoodIn wsL_law wsX7_value := goodIn_r _ [979, 358, 359, 360, 5, 361, 85, 113, 114, 115, 980, 981, 982, 983, 246, 247, 248, 249, 293, 294, 295, 296, 116, 117, 118, 119, 87, 120, 1221, 1222, 1223, 1224, 1225, 1226, 1227, 1228, 1229, 1230, 1231, 1232, 1233, 1234, 1235, 1236, 1237, 1238, 1239, 1240, 1241, 1242, 1243, 1244] (by decide +kernel) (by decide +kernel)
set_option maxRecDepth 20000 in
theorem gL_law_X7_value : GoodIn wsL_law (wsV RL 143 RX7 yX7_value wsX7_value) := goodIn_app (goodIn_of _ (by decide +kernel)) ggL_law_X7_value
