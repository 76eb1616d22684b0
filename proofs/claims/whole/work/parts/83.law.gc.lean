set_option maxRecDepth 20000 in
theorem ggL_law_X6_actIs : GoodIn wsL_law wsX6_actIs := goodIn_r _ [413, 16, 414, 415, 416, 2, 417, 104, 105, 106, 107, 30, 108, 1214, 1215, 1216, 1217, 1218, 1219, 1220, 1245, 1246, 1247, 1248, 1249, 1250, 1251, 1252, 1253, 1269, 1270, 1271, 1272, 1273, 1274, 1275, 1276, 1277, 1278] (by decide +kernel) (by decide +kernel)
set_option maxRecDepth 20000 in
theorem gL_law_X6_actIs : GoodIn wsL_law (wsV RL 44 RX6 yX6_actIs wsX6_actIs) := goodIn_app (goodIn_of _ (by decide +kernel)) ggL_law_X6_actIs
set_option maxRecDepth 20000 in
theorem ggL_law_X7_actIs : GoodIn wsL_law wsX7_actIs := goodIn_r _ [421, 94, 422, 423, 424, 5, 425, 85, 113, 114, 115, 116, 117, 118, 119, 87, 120, 313, 314, 315, 316, 317, 318, 319, 320, 246, 247, 248, 249, 293, 294, 295, 296, 262, 263, 264, 265, 1221, 1222, 1223, 1224, 1225, 1226, 1227, 1228, 1229, 1230, 1231, 1232, 1233, 1234, 1235, 1236, 1237, 1238, 1239, 1240, 1241, 1242, 1243, 1244] (by decide +kernel) (by decide +kernel)
set_option maxRecDepth 20000 in
theorem gL_law_X7_actIs : GoodIn wsL_law (wsV RL 47 RX7 yX7_actIs wsX7_actIs) := goodIn_app (goodIn_of _ (by decide +kernel)) ggL_law_X7_actIs
set_option maxRecDepth 20000 in
theorem ggL_law_X6_as : GoodIn wsL_law wsX6_as := goodIn_r _ [429, 16, 414, 415, 416, 2, 417, 104, 105, 106, 107, 30, 108, 430, 158, 39, 159, 1214, 1215, 1216, 1217, 1218, 1219, 1220, 1245, 1246, 1247, 1248, 1249, 1250, 1251, 1252, 1253, 1269, 1270, 1271, 1272, 1273, 1274, 1275, 1276, 1277, 1278] (by decide +kernel) (by decide +kernel)
set_option maxRecDepth 20000 in
theorem gL_law_X6_as : GoodIn wsL_law (wsV RL 48 RX6 yX6_as wsX6_as) := goodIn_app (goodIn_of _ (by decide +kernel)) ggL_law_X6_as
set_option maxRecDepth 20000 in
theorem ggL_law_X7_as : GoodIn wsL_law wsX7_as := goodIn_r _ [434, 422, 423, 424, 5, 425, 85, 113, 114, 115, 116, 117, 118, 119, 87, 120, 262, 263, 264, 265, 266, 267, 268, 1221, 1222, 1223, 1224, 1225, 1226, 1227, 1228, 1229, 1230, 1231, 1232, 1233, 1234, 1235, 1236, 1237, 1238, 1239, 1240, 1241, 1242, 1243, 1244] (by decide +kernel) (by decide +kernel)
set_option maxRecDepth 20000 in
theorem gL_law_X7_as : GoodIn wsL_law (wsV RL 51 RX7 yX7_as wsX7_as) := goodIn_app (goodIn_of _ (by decide +kernel)) ggL_law_X7_as
set_option maxRecDepth 20000 in
theorem ggL_law_X6_word : GoodIn wsL_law wsX6_word := goodIn_r _ [438, 16, 349, 350, 351, 2, 352, 104, 105, 106, 107, 30, 108, 439, 215, 216, 39, 217, 55, 1214, 1215, 1216, 1217, 1218, 1219, 1220, 1245, 1246, 1247, 1248, 1249, 1250, 1251, 1252, 1253, 1269, 1270, 1271, 1272, 1273, 1274, 1275, 1276, 1277, 1278] (by decide +kernel) (by decide +kernel)
set_option maxRecDepth 20000 in
theorem gL_law_X6_word : GoodIn wsL_law (wsV RL 52 RX6 yX6_word wsX6_word) := goodIn_app (goodIn_of _ (by decide +kernel)) ggL_law_X6_word
set_option maxRecDepth 20000 in
theorem ggL_law_X7_word : GoodIn wsL_law wsX7_word := goodIn_r _ [443, 358, 359, 360, 5, 361, 85, 113, 114, 115, 246, 247, 248, 249, 116, 117, 118, 119, 87, 120, 293, 294, 295, 296, 1221, 1222, 1223, 1224, 1225, 1226, 1227, 1228, 1229, 1230, 1231, 1232, 1233, 1234, 1235, 1236, 1237, 1238, 1239, 1240, 1241, 1242, 1243, 1244] (by decide +kernel) (by decide +kernel)
set_option maxRecDepth 20000 in
theorem gL_law_X7_word : GoodIn wsL_law (wsV RL 55 RX7 yX7_word wsX7_word) := goodIn_app (goodIn_of _ (by decide +kernel)) ggL_law_X7_word
set_option maxRecDepth 20000 in
theorem ggL_law_X6_origin : GoodIn wsL_law wsX6_origin := goodIn_r _ [447, 16, 349, 350, 351, 2, 352, 104, 105, 106, 107, 30, 108, 448, 449, 450, 39, 451, 55, 1214, 1215, 1216, 1217, 1218, 1219, 1220, 1245, 1246, 1247, 1248, 1249, 1250, 1251, 1252, 1253, 1269, 1270, 1271, 1272, 1273, 1274, 1275, 1276, 1277, 1278] (by decide +kernel) (by decide +kernel)
set_option maxRecDepth 20000 in
theorem gL_law_X6_origin : GoodIn wsL_law (wsV RL 56 RX6 yX6_origin wsX6_origin) := goodIn_app (goodIn_of _ (by decide +kernel)) ggL_law_X6_origin
set_option maxRecDepth 20000 in
theorem ggL_law_X7_origin : GoodIn wsL_law wsX7_origin := goodIn_r _ [455, 358, 359, 360, 5, 361, 85, 113, 114, 115, 246, 247, 248, 249, 297, 298, 299, 300, 116, 117, 118, 119, 87, 120, 1221, 1222, 1223, 1224, 1225, 1226, 1227, 1228, 1229, 1230, 1231, 1232, 1233, 1234, 1235, 1236, 1237, 1238, 1239, 1240, 1241, 1242, 1243, 1244] (by decide +kernel) (by decide +kernel)
set_option maxRecDepth 20000 in
theorem gL_law_X7_origin : GoodIn wsL_law (wsV RL 59 RX7 yX7_origin wsX7_origin) := goodIn_app (goodIn_of _ (by decide +kernel)) ggL_law_X7_origin
