set_option maxRecDepth 20000 in
theorem ggL_law_X6_best : GoodIn wsL_law wsX6_best := goodIn_r _ [987, 16, 988, 989, 990, 15, 991, 40, 992, 973, 974, 975, 36, 332, 215, 216, 39, 217, 55, 1214, 1215, 1216, 1217, 1218, 1219, 1220, 1245, 1246, 1247, 1248, 1249, 1250, 1251, 1252, 1253, 1269, 1270, 1271, 1272, 1273, 1274, 1275, 1276, 1277, 1278] (by decide +kernel) (by decide +kernel)
set_option maxRecDepth 20000 in
theorem gL_law_X6_best : GoodIn wsL_law (wsV RL 144 RX6 yX6_best wsX6_best) := goodIn_app (goodIn_of _ (by decide +kernel)) ggL_law_X6_best
set_option maxRecDepth 20000 in
theorem ggL_law_X7_best : GoodIn wsL_law wsX7_best := goodIn_r _ [996, 85, 980, 981, 982, 5, 983, 246, 247, 248, 249, 293, 294, 295, 296, 1221, 1222, 1223, 1224, 1225, 1226, 1227, 1228, 1229, 1230, 1231, 1232, 1233, 1234, 1235, 1236, 1237, 1238, 1239, 1240, 1241, 1242, 1243, 1244] (by decide +kernel) (by decide +kernel)
set_option maxRecDepth 20000 in
theorem gL_law_X7_best : GoodIn wsL_law (wsV RL 147 RX7 yX7_best wsX7_best) := goodIn_app (goodIn_of _ (by decide +kernel)) ggL_law_X7_best
set_option maxRecDepth 20000 in
theorem ggL_law_X6_got : GoodIn wsL_law wsX6_got := goodIn_r _ [1000, 16, 886, 887, 888, 2, 889, 104, 105, 106, 107, 30, 108, 1001, 1002, 1003, 15, 1004, 40, 992, 973, 974, 975, 36, 332, 215, 216, 39, 217, 55, 895, 824, 825, 826, 50, 195, 196, 193, 197, 133, 191, 192, 194, 1214, 1215, 1216, 1217, 1218, 1219, 1220, 1245, 1246, 1247, 1248, 1249, 1250, 1251, 1252, 1253, 1269, 1270, 1271, 1272, 1273, 1274, 1275, 1276, 1277, 1278] (by decide +kernel) (by decide +kernel)
set_option maxRecDepth 20000 in
theorem gL_law_X6_got : GoodIn wsL_law (wsV RL 148 RX6 yX6_got wsX6_got) := goodIn_app (goodIn_of _ (by decide +kernel)) ggL_law_X6_got
set_option maxRecDepth 20000 in
theorem ggL_law_X7_got : GoodIn wsL_law wsX7_got := goodIn_r _ [1008, 85, 900, 901, 902, 5, 903, 116, 117, 118, 119, 87, 120, 980, 981, 982, 983, 246, 247, 248, 249, 293, 294, 295, 296, 904, 905, 906, 907, 262, 263, 264, 265, 1221, 1222, 1223, 1224, 1225, 1226, 1227, 1228, 1229, 1230, 1231, 1232, 1233, 1234, 1235, 1236, 1237, 1238, 1239, 1240, 1241, 1242, 1243, 1244] (by decide +kernel) (by decide +kernel)
set_option maxRecDepth 20000 in
theorem gL_law_X7_got : GoodIn wsL_law (wsV RL 151 RX7 yX7_got wsX7_got) := goodIn_app (goodIn_of _ (by decide +kernel)) ggL_law_X7_got
set_option maxRecDepth 20000 in
theorem ggL_law_X6_voice : GoodIn wsL_law wsX6_voice := goodIn_r _ [1012, 24, 16, 414, 415, 416, 2, 417, 104, 105, 106, 107, 30, 108, 1013, 1014, 1015, 23, 1016, 1017, 1018, 1019, 1020, 1021, 1022, 1023, 1024, 1025, 1026, 74, 1027, 1028, 1029, 1030, 1031, 1032, 1033, 1034, 1035, 1036, 1037, 1038, 1214, 1215, 1216, 1217, 1218, 1219, 1220, 1245, 1246, 1247, 1248, 1249, 1250, 1251, 1252, 1253, 1260, 1261, 1262, 1263, 1264, 1265, 1269, 1270, 1271, 1272, 1273, 1274, 1275, 1276, 1277, 1278] (by decide +kernel) (by decide +kernel)
set_option maxRecDepth 20000 in
theorem gL_law_X6_voice : GoodIn wsL_law (wsV RL 152 RX6 yX6_voice wsX6_voice) := goodIn_app (goodIn_of _ (by decide +kernel)) ggL_law_X6_voice
set_option maxRecDepth 20000 in
theorem ggL_law_X7_voice : GoodIn wsL_law wsX7_voice := goodIn_r _ [1042, 1043, 1044, 1045, 422, 423, 424, 5, 425, 85, 113, 114, 115, 116, 117, 118, 119, 87, 120, 1046, 1047, 1048, 1049, 262, 263, 264, 265, 1050, 1051, 1052, 1053, 1054, 1055, 1056, 1057, 95, 1058, 1059, 1060, 1061, 1062, 1063, 1064, 1065, 1066, 1067, 1068, 1069, 1070, 1071, 1072, 1073, 1074, 1075, 1076, 1221, 1222, 1223, 1224, 1225, 1226, 1227, 1228, 1229, 1230, 1231, 1232, 1233, 1234, 1235, 1236, 1237, 1238, 1239, 1240, 1241, 1242, 1243, 1244] (by decide +kernel) (by decide +kernel)
set_option maxRecDepth 20000 in
theorem gL_law_X7_voice : GoodIn wsL_law (wsV RL 155 RX7 yX7_voice wsX7_voice) := goodIn_app (goodIn_of _ (by decide +kernel)) ggL_law_X7_voice
set_option maxRecDepth 20000 in
theorem ggL_law_X6_body : GoodIn wsL_law wsX6_body := goodIn_r _ [1080, 24, 104, 105, 106, 2, 107, 30, 108, 1214, 1215, 1216, 1217, 1218, 1219, 1220, 1260, 1261, 1262, 1263, 1264, 1265] (by decide +kernel) (by decide +kernel)
set_option maxRecDepth 20000 in
theorem gL_law_X6_body : GoodIn wsL_law (wsV RL 156 RX6 yX6_body wsX6_body) := goodIn_app (goodIn_of _ (by decide +kernel)) ggL_law_X6_body
set_option maxRecDepth 20000 in
theorem ggL_law_X7_body : GoodIn wsL_law wsX7_body := goodIn_r _ [1084, 1043, 95, 113, 114, 5, 115, 116, 117, 118, 119, 87, 120, 1221, 1222, 1223, 1224, 1225, 1226, 1227, 1228, 1229, 1230, 1231, 1232, 1233, 1234, 1235, 1236, 1237, 1238, 1239, 1240, 1241, 1242, 1243, 1244] (by decide +kernel) (by decide +kernel)
set_option maxRecDepth 20000 in
theorem gL_law_X7_body : GoodIn wsL_law (wsV RL 159 RX7 yX7_body wsX7_body) := goodIn_app (goodIn_of _ (by decide +kernel)) ggL_law_X7_body
