set_option maxRecDepth 20000 in
theorem ggL_law_X6_untell : GoodIn wsL_law wsX6_untell := goodIn_r _ [668, 16, 483, 484, 2, 485, 104, 105, 106, 107, 30, 108, 669, 670, 671, 43, 672, 62, 673, 150, 151, 152, 1214, 1215, 1216, 1217, 1218, 1219, 1220, 1245, 1246, 1247, 1248, 1249, 1250, 1251, 1252, 1253, 1279, 1280, 1281, 1282, 1283, 1284] (by decide +kernel) (by decide +kernel)
set_option maxRecDepth 20000 in
theorem gL_law_X6_untell : GoodIn wsL_law (wsV RL 75 RX6 yX6_untell wsX6_untell) := goodIn_app (goodIn_of _ (by decide +kernel)) ggL_law_X6_untell
set_option maxRecDepth 20000 in
theorem ggL_law_X7_untell : GoodIn wsL_law wsX7_untell := goodIn_r _ [677, 85, 113, 114, 5, 115, 116, 117, 118, 119, 87, 120, 254, 255, 256, 257, 1221, 1222, 1223, 1224, 1225, 1226, 1227, 1228, 1229, 1230, 1231, 1232, 1233, 1234, 1235, 1236, 1237, 1238, 1239, 1240, 1241, 1242, 1243, 1244] (by decide +kernel) (by decide +kernel)
set_option maxRecDepth 20000 in
theorem gL_law_X7_untell : GoodIn wsL_law (wsV RL 78 RX7 yX7_untell wsX7_untell) := goodIn_app (goodIn_of _ (by decide +kernel)) ggL_law_X7_untell
set_option maxRecDepth 20000 in
theorem ggL_law_X6_live : GoodIn wsL_law wsX6_live := goodIn_r _ [681, 16, 104, 105, 106, 2, 107, 30, 108, 682, 683, 684, 15, 685, 44, 40, 146, 149, 150, 151, 43, 152, 62, 686, 687, 688, 689, 34, 690, 175, 176, 177, 39, 178, 133, 129, 130, 131, 132, 54, 153, 154, 155, 156, 49, 50, 48, 157, 158, 159, 691, 692, 693, 694, 695, 449, 450, 451, 55, 164, 165, 166, 167, 63, 168, 169, 170, 171, 61, 64, 172, 173, 174, 142, 143, 144, 145, 147, 148, 160, 161, 162, 163, 696, 697, 698, 699, 700, 180, 181, 182, 183, 184, 185, 186, 187, 188, 189, 190, 191, 192, 193, 194, 195, 196, 197, 198, 199, 200, 201, 202, 203, 204, 205, 206, 207, 208, 209, 51, 52, 53, 210, 211, 212, 213, 214, 215, 216, 217, 701, 329, 330, 331, 332, 333, 334, 335, 336, 702, 703, 704, 705, 230, 231, 232, 233, 234, 706, 223, 224, 225, 226, 227, 228, 229, 1214, 1215, 1216, 1217, 1218, 1219, 1220, 1245, 1246, 1247, 1248, 1249, 1250, 1251, 1252, 1253, 1269, 1270, 1271, 1272, 1273, 1274, 1275, 1276, 1277, 1278, 1279, 1280, 1281, 1282, 1283, 1284] (by decide +kernel) (by decide +kernel)
set_option maxRecDepth 20000 in
theorem gL_law_X6_live : GoodIn wsL_law (wsV RL 79 RX6 yX6_live wsX6_live) := goodIn_app (goodIn_of _ (by decide +kernel)) ggL_law_X6_live
set_option maxRecDepth 20000 in
theorem ggL_law_X7_live : GoodIn wsL_law wsX7_live := goodIn_r _ [710, 85, 113, 114, 5, 115, 116, 117, 118, 119, 87, 120, 254, 255, 256, 257, 711, 712, 713, 714, 91, 715, 716, 717, 718, 719, 242, 243, 244, 245, 246, 247, 248, 249, 258, 259, 260, 261, 262, 263, 264, 265, 266, 267, 268, 720, 721, 722, 723, 297, 298, 299, 300, 273, 274, 275, 276, 92, 277, 278, 279, 280, 281, 282, 283, 250, 251, 252, 253, 269, 270, 271, 272, 284, 285, 286, 287, 288, 289, 290, 291, 292, 88, 89, 293, 294, 295, 296, 301, 302, 303, 304, 305, 306, 307, 308, 309, 310, 311, 312, 94, 313, 314, 315, 316, 317, 318, 319, 320, 341, 342, 343, 344, 724, 725, 726, 727, 362, 363, 364, 365, 1221, 1222, 1223, 1224, 1225, 1226, 1227, 1228, 1229, 1230, 1231, 1232, 1233, 1234, 1235, 1236, 1237, 1238, 1239, 1240, 1241, 1242, 1243, 1244] (by decide +kernel) (by decide +kernel)
set_option maxRecDepth 20000 in
theorem gL_law_X7_live : GoodIn wsL_law (wsV RL 82 RX7 yX7_live wsX7_live) := goodIn_app (goodIn_of _ (by decide +kernel)) ggL_law_X7_live
set_option maxRecDepth 20000 in
theorem ggL_law_X6_seed : GoodIn wsL_law wsX6_seed := goodIn_r _ [731, 16, 1214, 1215, 1216, 1217, 1218, 1219, 1220, 1245, 1246, 1247, 1248, 1249, 1250, 1251, 1252, 1253] (by decide +kernel) (by decide +kernel)
set_option maxRecDepth 20000 in
theorem gL_law_X6_seed : GoodIn wsL_law (wsV RL 83 RX6 yX6_seed wsX6_seed) := goodIn_app (goodIn_of _ (by decide +kernel)) ggL_law_X6_seed
set_option maxRecDepth 20000 in
theorem ggL_law_X7_seed : GoodIn wsL_law wsX7_seed := goodIn_r _ [735, 85, 1221, 1222, 1223, 1224, 1225, 1226, 1227, 1228, 1229, 1230, 1231, 1232, 1233, 1234, 1235, 1236, 1237, 1238, 1239, 1240, 1241, 1242, 1243, 1244] (by decide +kernel) (by decide +kernel)
set_option maxRecDepth 20000 in
theorem gL_law_X7_seed : GoodIn wsL_law (wsV RL 86 RX7 yX7_seed wsX7_seed) := goodIn_app (goodIn_of _ (by decide +kernel)) ggL_law_X7_seed
set_option maxRecDepth 20000 in
theorem ggL_law_X6_alike : GoodIn wsL_law wsX6_alike := goodIn_r _ [739, 16, 349, 350, 351, 2, 352, 104, 105, 106, 107, 30, 108, 740, 211, 212, 39, 213, 54, 214, 215, 216, 217, 55, 1214, 1215, 1216, 1217, 1218, 1219, 1220, 1245, 1246, 1247, 1248, 1249, 1250, 1251, 1252, 1253, 1269, 1270, 1271, 1272, 1273, 1274, 1275, 1276, 1277, 1278] (by decide +kernel) (by decide +kernel)
set_option maxRecDepth 20000 in
theorem gL_law_X6_alike : GoodIn wsL_law (wsV RL 87 RX6 yX6_alike wsX6_alike) := goodIn_app (goodIn_of _ (by decide +kernel)) ggL_law_X6_alike
set_option maxRecDepth 20000 in
theorem ggL_law_X7_alike : GoodIn wsL_law wsX7_alike := goodIn_r _ [744, 358, 359, 360, 5, 361, 85, 113, 114, 115, 116, 117, 118, 119, 87, 120, 317, 318, 319, 320, 246, 247, 248, 249, 293, 294, 295, 296, 1221, 1222, 1223, 1224, 1225, 1226, 1227, 1228, 1229, 1230, 1231, 1232, 1233, 1234, 1235, 1236, 1237, 1238, 1239, 1240, 1241, 1242, 1243, 1244] (by decide +kernel) (by decide +kernel)
set_option maxRecDepth 20000 in
theorem gL_law_X7_alike : GoodIn wsL_law (wsV RL 90 RX7 yX7_alike wsX7_alike) := goodIn_app (goodIn_of _ (by decide +kernel)) ggL_law_X7_alike
set_option maxRecDepth 20000 in
theorem ggL_law_X6_likeness : GoodIn wsL_law wsX6_likeness := goodIn_r _ [748, 16, 349, 350, 351, 2, 352, 104, 105, 106, 107, 30, 108, 749, 750, 751, 39, 752, 54, 195, 196, 193, 197, 56, 214, 215, 216, 217, 55, 1214, 1215, 1216, 1217, 1218, 1219, 1220, 1245, 1246, 1247, 1248, 1249, 1250, 1251, 1252, 1253, 1269, 1270, 1271, 1272, 1273, 1274, 1275, 1276, 1277, 1278] (by decide +kernel) (by decide +kernel)
set_option maxRecDepth 20000 in
theorem gL_law_X6_likeness : GoodIn wsL_law (wsV RL 91 RX6 yX6_likeness wsX6_likeness) := goodIn_app (goodIn_of _ (by decide +kernel)) ggL_law_X6_likeness
set_option maxRecDepth 20000 in
theorem ggL_law_X7_likeness : GoodIn wsL_law wsX7_likeness := goodIn_r _ [756, 358, 359, 360, 5, 361, 85, 113, 114, 115, 757, 758, 759, 760, 93, 246, 247, 248, 249, 293, 294, 295, 296, 116, 117, 118, 119, 87, 120, 1221, 1222, 1223, 1224, 1225, 1226, 1227, 1228, 1229, 1230, 1231, 1232, 1233, 1234, 1235, 1236, 1237, 1238, 1239, 1240, 1241, 1242, 1243, 1244] (by decide +kernel) (by decide +kernel)
set_option maxRecDepth 20000 in
theorem gL_law_X7_likeness : GoodIn wsL_law (wsV RL 94 RX7 yX7_likeness wsX7_likeness) := goodIn_app (goodIn_of _ (by decide +kernel)) ggL_law_X7_likeness
set_option maxRecDepth 20000 in
theorem ggL_law_X6_from : GoodIn wsL_law wsX6_from := goodIn_r _ [764, 16, 349, 350, 351, 2, 352, 104, 105, 106, 107, 30, 108, 765, 766, 767, 39, 768, 769, 750, 751, 752, 54, 195, 196, 193, 197, 56, 214, 215, 216, 217, 55, 1214, 1215, 1216, 1217, 1218, 1219, 1220, 1245, 1246, 1247, 1248, 1249, 1250, 1251, 1252, 1253, 1269, 1270, 1271, 1272, 1273, 1274, 1275, 1276, 1277, 1278] (by decide +kernel) (by decide +kernel)
set_option maxRecDepth 20000 in
theorem gL_law_X6_from : GoodIn wsL_law (wsV RL 95 RX6 yX6_from wsX6_from) := goodIn_app (goodIn_of _ (by decide +kernel)) ggL_law_X6_from
set_option maxRecDepth 20000 in
theorem ggL_law_X7_from : GoodIn wsL_law wsX7_from := goodIn_r _ [773, 358, 359, 360, 5, 361, 85, 113, 114, 115, 116, 117, 118, 119, 87, 120, 757, 758, 759, 760, 93, 246, 247, 248, 249, 293, 294, 295, 296, 1221, 1222, 1223, 1224, 1225, 1226, 1227, 1228, 1229, 1230, 1231, 1232, 1233, 1234, 1235, 1236, 1237, 1238, 1239, 1240, 1241, 1242, 1243, 1244] (by decide +kernel) (by decide +kernel)
set_option maxRecDepth 20000 in
theorem gL_law_X7_from : GoodIn wsL_law (wsV RL 98 RX7 yX7_from wsX7_from) := goodIn_app (goodIn_of _ (by decide +kernel)) ggL_law_X7_from
set_option maxRecDepth 20000 in
theorem ggL_law_X6_war : GoodIn wsL_law wsX6_war := goodIn_r _ [777, 16, 414, 415, 416, 2, 417, 104, 105, 106, 107, 30, 108, 778, 779, 780, 39, 781, 52, 782, 783, 784, 785, 786, 787, 788, 789, 49, 1214, 1215, 1216, 1217, 1218, 1219, 1220, 1245, 1246, 1247, 1248, 1249, 1250, 1251, 1252, 1253, 1269, 1270, 1271, 1272, 1273, 1274, 1275, 1276, 1277, 1278] (by decide +kernel) (by decide +kernel)
set_option maxRecDepth 20000 in
theorem gL_law_X6_war : GoodIn wsL_law (wsV RL 99 RX6 yX6_war wsX6_war) := goodIn_app (goodIn_of _ (by decide +kernel)) ggL_law_X6_war
set_option maxRecDepth 20000 in
theorem ggL_law_X7_war : GoodIn wsL_law wsX7_war := goodIn_r _ [793, 422, 423, 424, 5, 425, 85, 113, 114, 115, 116, 117, 118, 119, 87, 120, 313, 314, 315, 316, 94, 317, 318, 319, 320, 246, 247, 248, 249, 293, 294, 295, 296, 794, 795, 796, 797, 262, 263, 264, 265, 1221, 1222, 1223, 1224, 1225, 1226, 1227, 1228, 1229, 1230, 1231, 1232, 1233, 1234, 1235, 1236, 1237, 1238, 1239, 1240, 1241, 1242, 1243, 1244] (by decide +kernel) (by decide +kernel)
set_option maxRecDepth 20000 in
theorem gL_law_X7_war : GoodIn wsL_law (wsV RL 102 RX7 yX7_war wsX7_war) := goodIn_app (goodIn_of _ (by decide +kernel)) ggL_law_X7_war
set_option maxRecDepth 20000 in
theorem ggL_law_X6_longest : GoodIn wsL_law wsX6_longest := goodIn_r _ [801, 16, 104, 105, 106, 2, 107, 30, 108, 802, 803, 804, 39, 805, 133, 806, 779, 780, 781, 52, 1214, 1215, 1216, 1217, 1218, 1219, 1220, 1245, 1246, 1247, 1248, 1249, 1250, 1251, 1252, 1253, 1269, 1270, 1271, 1272, 1273, 1274, 1275, 1276, 1277, 1278] (by decide +kernel) (by decide +kernel)
set_option maxRecDepth 20000 in
theorem gL_law_X6_longest : GoodIn wsL_law (wsV RL 103 RX6 yX6_longest wsX6_longest) := goodIn_app (goodIn_of _ (by decide +kernel)) ggL_law_X6_longest
set_option maxRecDepth 20000 in
theorem ggL_law_X7_longest : GoodIn wsL_law wsX7_longest := goodIn_r _ [810, 85, 116, 117, 118, 5, 119, 87, 120, 313, 314, 315, 316, 94, 317, 318, 319, 320, 246, 247, 248, 249, 293, 294, 295, 296, 794, 795, 796, 797, 262, 263, 264, 265, 1221, 1222, 1223, 1224, 1225, 1226, 1227, 1228, 1229, 1230, 1231, 1232, 1233, 1234, 1235, 1236, 1237, 1238, 1239, 1240, 1241, 1242, 1243, 1244] (by decide +kernel) (by decide +kernel)
set_option maxRecDepth 20000 in
theorem gL_law_X7_longest : GoodIn wsL_law (wsV RL 107 RX7 yX7_longest wsX7_longest) := goodIn_app (goodIn_of _ (by decide +kernel)) ggL_law_X7_longest
set_option maxRecDepth 20000 in
theorem ggL_law_X6_stays : GoodIn wsL_law wsX6_stays := goodIn_r _ [814, 16, 414, 415, 416, 2, 417, 104, 105, 106, 107, 30, 108, 815, 816, 817, 39, 818, 133, 819, 820, 821, 822, 54, 695, 449, 450, 451, 55, 823, 824, 825, 826, 50, 195, 196, 193, 197, 191, 192, 194, 1214, 1215, 1216, 1217, 1218, 1219, 1220, 1245, 1246, 1247, 1248, 1249, 1250, 1251, 1252, 1253, 1269, 1270, 1271, 1272, 1273, 1274, 1275, 1276, 1277, 1278] (by decide +kernel) (by decide +kernel)
set_option maxRecDepth 20000 in
theorem gL_law_X6_stays : GoodIn wsL_law (wsV RL 108 RX6 yX6_stays wsX6_stays) := goodIn_app (goodIn_of _ (by decide +kernel)) ggL_law_X6_stays
set_option maxRecDepth 20000 in
theorem ggL_law_X7_stays : GoodIn wsL_law wsX7_stays := goodIn_r _ [830, 422, 423, 424, 5, 425, 85, 113, 114, 115, 831, 832, 833, 834, 246, 247, 248, 249, 297, 298, 299, 300, 835, 836, 837, 838, 262, 263, 264, 265, 116, 117, 118, 119, 87, 120, 1221, 1222, 1223, 1224, 1225, 1226, 1227, 1228, 1229, 1230, 1231, 1232, 1233, 1234, 1235, 1236, 1237, 1238, 1239, 1240, 1241, 1242, 1243, 1244] (by decide +kernel) (by decide +kernel)
set_option maxRecDepth 20000 in
theorem gL_law_X7_stays : GoodIn wsL_law (wsV RL 111 RX7 yX7_stays wsX7_stays) := goodIn_app (goodIn_of _ (by decide +kernel)) ggL_law_X7_stays
set_option maxRecDepth 20000 in
theorem ggL_law_X6_writerIs : GoodIn wsL_law wsX6_writerIs := goodIn_r _ [842, 16, 325, 134, 2, 135, 104, 105, 106, 107, 30, 108, 843, 692, 693, 39, 694, 54, 49, 695, 449, 450, 451, 55, 844, 845, 846, 847, 133, 848, 823, 824, 825, 826, 50, 195, 196, 193, 197, 191, 192, 194, 849, 850, 851, 852, 52, 853, 154, 155, 156, 48, 157, 158, 159, 854, 855, 856, 857, 1214, 1215, 1216, 1217, 1218, 1219, 1220, 1245, 1246, 1247, 1248, 1249, 1250, 1251, 1252, 1253, 1269, 1270, 1271, 1272, 1273, 1274, 1275, 1276, 1277, 1278] (by decide +kernel) (by decide +kernel)
set_option maxRecDepth 20000 in
theorem gL_law_X6_writerIs : GoodIn wsL_law (wsV RL 112 RX6 yX6_writerIs wsX6_writerIs) := goodIn_app (goodIn_of _ (by decide +kernel)) ggL_law_X6_writerIs
set_option maxRecDepth 20000 in
theorem ggL_law_X7_writerIs : GoodIn wsL_law wsX7_writerIs := goodIn_r _ [861, 85, 94, 239, 240, 5, 241, 113, 114, 115, 116, 117, 118, 119, 87, 120, 313, 314, 315, 316, 317, 318, 319, 320, 246, 247, 248, 249, 293, 294, 295, 296, 862, 863, 864, 865, 262, 263, 264, 265, 720, 721, 722, 723, 242, 243, 244, 245, 297, 298, 299, 300, 258, 259, 260, 261, 266, 267, 268, 831, 832, 833, 834, 835, 836, 837, 838, 1221, 1222, 1223, 1224, 1225, 1226, 1227, 1228, 1229, 1230, 1231, 1232, 1233, 1234, 1235, 1236, 1237, 1238, 1239, 1240, 1241, 1242, 1243, 1244] (by decide +kernel) (by decide +kernel)
set_option maxRecDepth 20000 in
theorem gL_law_X7_writerIs : GoodIn wsL_law (wsV RL 115 RX7 yX7_writerIs wsX7_writerIs) := goodIn_app (goodIn_of _ (by decide +kernel)) ggL_law_X7_writerIs
set_option maxRecDepth 20000 in
theorem ggL_law_X6_read : GoodIn wsL_law wsX6_read := goodIn_r _ [869, 16, 104, 105, 106, 2, 107, 30, 108, 870, 871, 872, 39, 873, 133, 50, 1214, 1215, 1216, 1217, 1218, 1219, 1220, 1245, 1246, 1247, 1248, 1249, 1250, 1251, 1252, 1253, 1269, 1270, 1271, 1272, 1273, 1274, 1275, 1276, 1277, 1278] (by decide +kernel) (by decide +kernel)
set_option maxRecDepth 20000 in
theorem gL_law_X6_read : GoodIn wsL_law (wsV RL 116 RX6 yX6_read wsX6_read) := goodIn_app (goodIn_of _ (by decide +kernel)) ggL_law_X6_read
set_option maxRecDepth 20000 in
theorem ggL_law_X7_read : GoodIn wsL_law wsX7_read := goodIn_r _ [877, 85, 113, 114, 5, 115, 878, 879, 880, 881, 262, 263, 264, 265, 116, 117, 118, 119, 87, 120, 1221, 1222, 1223, 1224, 1225, 1226, 1227, 1228, 1229, 1230, 1231, 1232, 1233, 1234, 1235, 1236, 1237, 1238, 1239, 1240, 1241, 1242, 1243, 1244] (by decide +kernel) (by decide +kernel)
set_option maxRecDepth 20000 in
theorem gL_law_X7_read : GoodIn wsL_law (wsV RL 119 RX7 yX7_read wsX7_read) := goodIn_app (goodIn_of _ (by decide +kernel)) ggL_law_X7_read
set_option maxRecDepth 20000 in
theorem ggL_law_X6_wrong : GoodIn wsL_law wsX6_wrong := goodIn_r _ [885, 16, 349, 350, 351, 2, 352, 886, 887, 888, 889, 104, 105, 106, 107, 30, 108, 890, 891, 892, 15, 893, 40, 894, 211, 212, 39, 213, 54, 214, 215, 216, 217, 55, 895, 824, 825, 826, 50, 195, 196, 193, 197, 133, 191, 192, 194, 1214, 1215, 1216, 1217, 1218, 1219, 1220, 1245, 1246, 1247, 1248, 1249, 1250, 1251, 1252, 1253, 1269, 1270, 1271, 1272, 1273, 1274, 1275, 1276, 1277, 1278] (by decide +kernel) (by decide +kernel)
set_option maxRecDepth 20000 in
theorem gL_law_X6_wrong : GoodIn wsL_law (wsV RL 120 RX6 yX6_wrong wsX6_wrong) := goodIn_app (goodIn_of _ (by decide +kernel)) ggL_law_X6_wrong
set_option maxRecDepth 20000 in
theorem ggL_law_X7_wrong : GoodIn wsL_law wsX7_wrong := goodIn_r _ [899, 85, 358, 359, 360, 5, 361, 113, 114, 115, 900, 901, 902, 903, 116, 117, 118, 119, 87, 120, 317, 318, 319, 320, 246, 247, 248, 249, 293, 294, 295, 296, 904, 905, 906, 907, 262, 263, 264, 265, 1221, 1222, 1223, 1224, 1225, 1226, 1227, 1228, 1229, 1230, 1231, 1232, 1233, 1234, 1235, 1236, 1237, 1238, 1239, 1240, 1241, 1242, 1243, 1244] (by decide +kernel) (by decide +kernel)
set_option maxRecDepth 20000 in
theorem gL_law_X7_wrong : GoodIn wsL_law (wsV RL 123 RX7 yX7_wrong wsX7_wrong) := goodIn_app (goodIn_of _ (by decide +kernel)) ggL_law_X7_wrong
set_option maxRecDepth 20000 in
theorem ggL_law_X6_hand : GoodIn wsL_law wsX6_hand := goodIn_r _ [911, 16, 912, 192, 193, 194, 325, 134, 2, 135, 104, 105, 106, 107, 30, 108, 913, 161, 162, 39, 163, 133, 49, 914, 915, 916, 917, 191, 918, 919, 920, 921, 50, 1214, 1215, 1216, 1217, 1218, 1219, 1220, 1245, 1246, 1247, 1248, 1249, 1250, 1251, 1252, 1253, 1269, 1270, 1271, 1272, 1273, 1274, 1275, 1276, 1277, 1278] (by decide +kernel) (by decide +kernel)
set_option maxRecDepth 20000 in
theorem gL_law_X6_hand : GoodIn wsL_law (wsV RL 124 RX6 yX6_hand wsX6_hand) := goodIn_app (goodIn_of _ (by decide +kernel)) ggL_law_X6_hand
set_option maxRecDepth 20000 in
theorem ggL_law_X7_hand : GoodIn wsL_law wsX7_hand := goodIn_r _ [925, 239, 240, 5, 241, 113, 114, 115, 116, 117, 118, 119, 87, 120, 269, 270, 271, 272, 85, 262, 263, 264, 265, 926, 927, 928, 929, 1221, 1222, 1223, 1224, 1225, 1226, 1227, 1228, 1229, 1230, 1231, 1232, 1233, 1234, 1235, 1236, 1237, 1238, 1239, 1240, 1241, 1242, 1243, 1244] (by decide +kernel) (by decide +kernel)
set_option maxRecDepth 20000 in
theorem gL_law_X7_hand : GoodIn wsL_law (wsV RL 127 RX7 yX7_hand wsX7_hand) := goodIn_app (goodIn_of _ (by decide +kernel)) ggL_law_X7_hand
set_option maxRecDepth 20000 in
theorem ggL_law_X6_score : GoodIn wsL_law wsX6_score := goodIn_r _ [933, 16, 414, 415, 416, 2, 417, 104, 105, 106, 107, 30, 108, 1214, 1215, 1216, 1217, 1218, 1219, 1220, 1245, 1246, 1247, 1248, 1249, 1250, 1251, 1252, 1253, 1269, 1270, 1271, 1272, 1273, 1274, 1275, 1276, 1277, 1278] (by decide +kernel) (by decide +kernel)
set_option maxRecDepth 20000 in
theorem gL_law_X6_score : GoodIn wsL_law (wsV RL 128 RX6 yX6_score wsX6_score) := goodIn_app (goodIn_of _ (by decide +kernel)) ggL_law_X6_score
set_option maxRecDepth 20000 in
theorem ggL_law_X7_score : GoodIn wsL_law wsX7_score := goodIn_r _ [937, 85, 422, 423, 424, 5, 425, 113, 114, 115, 116, 117, 118, 119, 87, 120, 262, 263, 264, 265, 1221, 1222, 1223, 1224, 1225, 1226, 1227, 1228, 1229, 1230, 1231, 1232, 1233, 1234, 1235, 1236, 1237, 1238, 1239, 1240, 1241, 1242, 1243, 1244] (by decide +kernel) (by decide +kernel)
set_option maxRecDepth 20000 in
theorem gL_law_X7_score : GoodIn wsL_law (wsV RL 131 RX7 yX7_score wsX7_score) := goodIn_app (goodIn_of _ (by decide +kernel)) ggL_law_X7_score
set_option maxRecDepth 20000 in
theorem ggL_law_X6_line : GoodIn wsL_law wsX6_line := goodIn_r _ [941, 16, 104, 105, 106, 2, 107, 30, 108, 942, 943, 944, 39, 945, 946, 947, 948, 949, 133, 53, 48, 157, 158, 159, 950, 1214, 1215, 1216, 1217, 1218, 1219, 1220, 1245, 1246, 1247, 1248, 1249, 1250, 1251, 1252, 1253, 1269, 1270, 1271, 1272, 1273, 1274, 1275, 1276, 1277, 1278] (by decide +kernel) (by decide +kernel)
set_option maxRecDepth 20000 in
theorem gL_law_X6_line : GoodIn wsL_law (wsV RL 132 RX6 yX6_line wsX6_line) := goodIn_app (goodIn_of _ (by decide +kernel)) ggL_law_X6_line
set_option maxRecDepth 20000 in
theorem ggL_law_X7_line : GoodIn wsL_law wsX7_line := goodIn_r _ [954, 113, 114, 5, 115, 116, 117, 118, 119, 87, 120, 955, 956, 957, 958, 85, 262, 263, 264, 265, 1221, 1222, 1223, 1224, 1225, 1226, 1227, 1228, 1229, 1230, 1231, 1232, 1233, 1234, 1235, 1236, 1237, 1238, 1239, 1240, 1241, 1242, 1243, 1244] (by decide +kernel) (by decide +kernel)
set_option maxRecDepth 20000 in
theorem gL_law_X7_line : GoodIn wsL_law (wsV RL 135 RX7 yX7_line wsX7_line) := goodIn_app (goodIn_of _ (by decide +kernel)) ggL_law_X7_line
