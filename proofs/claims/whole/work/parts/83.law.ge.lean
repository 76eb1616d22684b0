set_option maxRecDepth 20000 in
theorem ggL_law_X6_live : GoodIn wsL_law wsX6_live := goodIn_r _ [681, 16, 104, 105, 106, 2, 107, 30, 108, 682, 683, 684, 15, 685, 44, 40, 146, 149, 150, 151, 43, 152, 62, 686, 687, 688, 689, 34, 690, 175, 176, 177, 39, 178, 133, 129, 130, 131, 132, 54, 153, 154, 155, 156, 49, 50, 48, 157, 158, 159, 691, 692, 693, 694, 695, 449, 450, 451, 55, 164, 165, 166, 167, 63, 168, 169, 170, 171, 61, 64, 172, 173, 174, 142, 143, 144, 145, 147, 148, 160, 161, 162, 163, 696, 697, 698, 699, 700, 180, 181, 182, 183, 184, 185, 186, 187, 188, 189, 190, 191, 192, 193, 194, 195, 196, 197, 198, 199, 200, 201, 202, 203, 204, 205, 206, 207, 208, 209, 51, 52, 53, 210, 211, 212, 213, 214, 215, 216, 217, 701, 329, 330, 331, 332, 333, 334, 335, 336, 702, 703, 704, 705, 230, 231, 232, 233, 234, 706, 223, 224, 225, 226, 227, 228, 229, 1214, 1215, 1216, 1217, 1218, 1219, 1220, 1245, 1246, 1247, 1248, 1249, 1250, 1251, 1252, 1253, 1269, 1270, 1271, 1272, 1273, 1274, 1275, 1276, 1277, 1278, 1279, 1280, 1281, 1282, 1283, 1284] (by decide +kernel) (by decide +kernel)
set_option maxRecDepth 20000 in
theorem gL_law_X6_live : GoodIn wsL_law (wsV RL 79 RX6 yX6_live wsX6_live) := goodIn_app (goodIn_of _ (by decide +kernel)) ggL_law_X6_live
set_option maxRecDepth 20000 in
theorem ggL_law_X7_live : GoodIn wsL_law wsX7_live := goodIn_r _ [710, 85, 113, 114, 5, 115, 116, 117, 118, 119, 87, 120, 254, 255, 256, 257, 711, 712, 713, 714, 91, 715, 716, 717, 718, 719, 242, 243, 244, 245, 246, 247, 248, 249, 258, 259, 260, 261, 262, 263, 264, 265, 266, 267, 268, 720, 721, 722, 723, 297, 298, 299, 300, 273, 274, 275, 276, 92, 277, 278, 279, 280, 281, 282, 283, 250, 251, 252, 253, 269, 270, 271, 272, 284, 285, 286, 287, 288, 289, 290, 291, 292, 88, 89, 293, 294, 295, 296, 301, 302, 303, 304, 305, 306, 307, 308, 309, 310, 311, 312, 94, 313, 314, 315, 316, 317, 318, 319, 320, 341, 342, 343, 344, 724, 725, 726, 727, 362, 363, 364, 365, 1221, 1222, 1223, 1224, 1225, 1226, 1227, 1228, 1229, 1230, 1231, 1232, 1233, 1234, 1235, 1236, 1237, 1238, 1239, 1240, 1241, 1242, 1243, 1244] (by decide +kernel) (by decide +kernel)
set_option maxRecDepth 20000 in
theorem gL_law_X7_live : GoodIn wsL_law (wsV RL 82 RX7 yX7_live wsX7_live) := goodIn_app (goodIn_of _ (by decide +kernel)) ggL_law_X7_live
set_option maxRecDepth 20000 in
theorem ggL_law_X6_seed : GoodIn wsL_law wsX6_seed := goodIn_r _ [731, 16, 1214, 1215, 1216, 1217, 1218, 1219, 1220, 1245, 1246, 1247, 1248, 1249, 1250, 1251, 1252, 1253] (by decide +kernel) (by decide +kernel)
set_option maxRecDepth 20000 in
theorem gL_law_X6_seed : GoodIn wsL_law (wsV RL 83 RX6 yX6_seed wsX6_seed) := goodIn_app (goodIn_of _ (by decide +kernel)) ggL_law_X6_seed
set_option maxRecDepth 20000 in
theorem ggL_law_X7_seed : GoodIn wsL_law wsX7_seed := goodIn_r _ [735, 85, 1221, 1222, 1223, 1224, 1225, 1226, 1227, 1228, 1229, 1230, 1231, 1232, 1233, 1234, 1235, 1236, 1237, 1238, 1239, 1240, 1241, 1242, 1243, 1244] (by decide +kernel) (by decide +kernel)
set_option maxRecDepth 20000 in
theorem gL_law_X7_seed : GoodIn wsL_law (wsV RL 86 RX7 yX7_seed wsX7_seed) := goodIn_app (goodIn_of _ (by decide +kernel)) ggL_law_X7_seed
set_option maxRecDepth 20000 in
theorem ggL_law_X6_alike : GoodIn wsL_law wsX6_alike := goodIn_r _ [739, 16, 349, 350, 351, 2, 352, 104, 105, 106, 107, 30, 108, 740, 211, 212, 39, 213, 54, 214, 215, 216, 217, 55, 1214, 1215, 1216, 1217, 1218, 1219, 1220, 1245, 1246, 1247, 1248, 1249, 1250, 1251, 1252, 1253, 1269, 1270, 1271, 1272, 1273, 1274, 1275, 1276, 1277, 1278] (by decide +kernel) (by decide +kernel)
set_option maxRecDepth 20000 in
theorem gL_law_X6_alike : GoodIn wsL_law (wsV RL 87 RX6 yX6_alike wsX6_alike) := goodIn_app (goodIn_of _ (by decide +kernel)) ggL_law_X6_alike
set_option maxRecDepth 20000 in
theorem ggL_law_X7_alike : GoodIn wsL_law wsX7_alike := goodIn_r _ [744, 358, 359, 360, 5, 361, 85, 113, 114, 115, 116, 117, 118, 119, 87, 120, 317, 318, 319, 320, 246, 247, 248, 249, 293, 294, 295, 296, 1221, 1222, 1223, 1224, 1225, 1226, 1227, 1228, 1229, 1230, 1231, 1232, 1233, 1234, 1235, 1236, 1237, 1238, 1239, 1240, 1241, 1242, 1243, 1244] (by decide +kernel) (by decide +kernel)
set_option maxRecDepth 20000 in
theorem gL_law_X7_alike : GoodIn wsL_law (wsV RL 90 RX7 yX7_alike wsX7_alike) := goodIn_app (goodIn_of _ (by decide +kernel)) ggL_law_X7_alike
set_option maxRecDepth 20000 in
theorem ggL_law_X6_likeness : GoodIn wsL_law wsX6_likeness := goodIn_r _ [748, 16, 349, 350, 351, 2, 352, 104, 105, 106, 107, 30, 108, 749, 750, 751, 39, 752, 54, 195, 196, 193, 197, 56, 214, 215, 216, 217, 55, 1214, 1215, 1216, 1217, 1218, 1219, 1220, 1245, 1246, 1247, 1248, 1249, 1250, 1251, 1252, 1253, 1269, 1270, 1271, 1272, 1273, 1274, 1275, 1276, 1277, 1278] (by decide +kernel) (by decide +kernel)
set_option maxRecDepth 20000 in
theorem gL_law_X6_likeness : GoodIn wsL_law (wsV RL 91 RX6 yX6_likeness wsX6_likeness) := goodIn_app (goodIn_of _ (by decide +kernel)) ggL_law_X6_likeness
set_option maxRecDepth 20000 in
theorem ggL_law_X7_likeness : GoodIn wsL_law wsX7_likeness := goodIn_r _ [756, 358, 359, 360, 5, 361, 85, 113, 114, 115, 757, 758, 759, 760, 93, 246, 247, 248, 249, 293, 294, 295, 296, 116, 117, 118, 119, 87, 120, 1221, 1222, 1223, 1224, 1225, 1226, 1227, 1228, 1229, 1230, 1231, 1232, 1233, 1234, 1235, 1236, 1237, 1238, 1239, 1240, 1241, 1242, 1243, 1244] (by decide +kernel) (by decide +kernel)
set_option maxRecDepth 20000 in
theorem gL_law_X7_likeness : GoodIn wsL_law (wsV RL 94 RX7 yX7_likeness wsX7_likeness) := goodIn_app (goodIn_of _ (by decide +kernel)) ggL_law_X7_likeness
