set_option maxRecDepth 20000 in
theorem ggL_law_X6_init : GoodIn wsL_law wsX6_init := goodIn_r _ [9, 10, 11, 12, 13, 14, 15, 16, 17, 18, 19, 20, 21, 22, 23, 24, 25, 26, 27, 28, 29, 30, 31, 32, 33, 34, 35, 36, 37, 38, 39, 40, 41, 42, 43, 44, 45, 46, 47, 48, 49, 50, 51, 52, 53, 54, 55, 56, 57, 58, 59, 60, 61, 62, 63, 64, 65, 66, 67, 68, 69, 70, 71, 72, 73, 74, 75, 76, 77, 78, 79, 80, 1245, 1246, 1247, 1248, 1249, 1250, 1251, 1252, 1253, 1214, 1215, 1216, 1217, 1218, 1219, 1220, 1254, 1255, 1256, 1257, 1258, 1259, 1260, 1261, 1262, 1263, 1264, 1265, 1266, 1267, 1268, 1269, 1270, 1271, 1272, 1273, 1274, 1275, 1276, 1277, 1278, 1279, 1280, 1281, 1282, 1283, 1284] (by decide +kernel) (by decide +kernel)
set_option maxRecDepth 20000 in
theorem gL_law_X6_init : GoodIn wsL_law (wsX6_init) := ggL_law_X6_init
set_option maxRecDepth 20000 in
theorem ggL_law_X7_init : GoodIn wsL_law wsX7_init := goodIn_r _ [83, 84, 11, 12, 29, 85, 86, 87, 88, 89, 90, 91, 92, 93, 94, 95, 96, 97, 98, 99, 1221, 1222, 1223, 1224, 1225, 1226, 1227, 1228, 1229, 1230, 1231, 1232, 1233, 1234, 1235, 1236, 1237, 1238, 1239, 1240, 1241, 1242, 1243, 1244] (by decide +kernel) (by decide +kernel)
set_option maxRecDepth 20000 in
theorem gL_law_X7_init : GoodIn wsL_law (wsX7_init) := ggL_law_X7_init
set_option maxRecDepth 20000 in
theorem ggL_law_X6_go : GoodIn wsL_law wsX6_go := goodIn_r _ [103, 16, 104, 105, 106, 2, 107, 30, 108, 1214, 1215, 1216, 1217, 1218, 1219, 1220, 1245, 1246, 1247, 1248, 1249, 1250, 1251, 1252, 1253] (by decide +kernel) (by decide +kernel)
set_option maxRecDepth 20000 in
theorem gL_law_X6_go : GoodIn wsL_law (wsV RL 13 RX6 yX6_go wsX6_go) := goodIn_app (goodIn_of _ (by decide +kernel)) ggL_law_X6_go
set_option maxRecDepth 20000 in
theorem ggL_law_X7_go : GoodIn wsL_law wsX7_go := goodIn_r _ [112, 85, 113, 114, 5, 115, 116, 117, 118, 119, 87, 120, 1221, 1222, 1223, 1224, 1225, 1226, 1227, 1228, 1229, 1230, 1231, 1232, 1233, 1234, 1235, 1236, 1237, 1238, 1239, 1240, 1241, 1242, 1243, 1244] (by decide +kernel) (by decide +kernel)
set_option maxRecDepth 20000 in
theorem gL_law_X7_go : GoodIn wsL_law (wsV RL 17 RX7 yX7_go wsX7_go) := goodIn_app (goodIn_of _ (by decide +kernel)) ggL_law_X7_go
set_option maxRecDepth 20000 in
theorem ggL_law_X6_write : GoodIn wsL_law wsX6_write := goodIn_r _ [124, 16, 125, 126, 127, 15, 128, 40, 129, 130, 131, 39, 132, 54, 133, 134, 2, 135, 136, 137, 138, 139, 140, 141, 142, 143, 144, 145, 146, 147, 148, 44, 149, 150, 151, 43, 152, 62, 153, 154, 155, 156, 49, 50, 48, 157, 158, 159, 160, 161, 162, 163, 164, 165, 166, 167, 63, 168, 169, 170, 171, 61, 64, 172, 173, 174, 175, 176, 177, 178, 104, 105, 106, 107, 30, 108, 179, 180, 181, 182, 183, 184, 185, 186, 55, 187, 188, 189, 190, 191, 192, 193, 194, 195, 196, 197, 198, 199, 200, 201, 202, 203, 204, 205, 206, 207, 208, 209, 51, 52, 53, 210, 211, 212, 213, 214, 215, 216, 217, 218, 219, 220, 221, 222, 223, 224, 225, 226, 227, 228, 229, 230, 231, 232, 233, 234, 1214, 1215, 1216, 1217, 1218, 1219, 1220, 1245, 1246, 1247, 1248, 1249, 1250, 1251, 1252, 1253, 1269, 1270, 1271, 1272, 1273, 1274, 1275, 1276, 1277, 1278, 1279, 1280, 1281, 1282, 1283, 1284] (by decide +kernel) (by decide +kernel)
set_option maxRecDepth 20000 in
theorem gL_law_X6_write : GoodIn wsL_law (wsV RL 18 RX6 yX6_write wsX6_write) := goodIn_app (goodIn_of _ (by decide +kernel)) ggL_law_X6_write
set_option maxRecDepth 20000 in
theorem ggL_law_X7_write : GoodIn wsL_law wsX7_write := goodIn_r _ [238, 239, 240, 5, 241, 113, 114, 115, 242, 243, 244, 245, 85, 246, 247, 248, 249, 116, 117, 118, 119, 87, 120, 250, 251, 252, 253, 91, 254, 255, 256, 257, 258, 259, 260, 261, 262, 263, 264, 265, 266, 267, 268, 269, 270, 271, 272, 273, 274, 275, 276, 92, 277, 278, 279, 280, 281, 282, 283, 284, 285, 286, 287, 288, 289, 290, 291, 292, 88, 89, 293, 294, 295, 296, 297, 298, 299, 300, 301, 302, 303, 304, 305, 306, 307, 308, 309, 310, 311, 312, 94, 313, 314, 315, 316, 317, 318, 319, 320, 1221, 1222, 1223, 1224, 1225, 1226, 1227, 1228, 1229, 1230, 1231, 1232, 1233, 1234, 1235, 1236, 1237, 1238, 1239, 1240, 1241, 1242, 1243, 1244] (by decide +kernel) (by decide +kernel)
set_option maxRecDepth 20000 in
theorem gL_law_X7_write : GoodIn wsL_law (wsV RL 22 RX7 yX7_write wsX7_write) := goodIn_app (goodIn_of _ (by decide +kernel)) ggL_law_X7_write
set_option maxRecDepth 20000 in
theorem ggL_law_X6_cut : GoodIn wsL_law wsX6_cut := goodIn_r _ [324, 16, 325, 134, 2, 135, 326, 130, 131, 39, 132, 54, 133, 104, 105, 106, 107, 30, 108, 327, 139, 140, 15, 141, 40, 142, 143, 144, 145, 146, 147, 148, 44, 149, 150, 151, 43, 152, 62, 153, 154, 155, 156, 49, 50, 48, 157, 158, 159, 129, 160, 161, 162, 163, 164, 165, 166, 167, 63, 168, 169, 170, 171, 61, 64, 172, 173, 174, 175, 176, 177, 178, 328, 329, 330, 331, 332, 215, 216, 217, 55, 333, 334, 335, 336, 198, 199, 200, 201, 206, 207, 208, 209, 51, 52, 53, 210, 211, 212, 213, 214, 218, 219, 220, 221, 222, 223, 224, 225, 226, 227, 228, 229, 230, 231, 232, 233, 234, 188, 189, 190, 191, 192, 193, 194, 195, 196, 197, 1214, 1215, 1216, 1217, 1218, 1219, 1220, 1245, 1246, 1247, 1248, 1249, 1250, 1251, 1252, 1253, 1269, 1270, 1271, 1272, 1273, 1274, 1275, 1276, 1277, 1278, 1279, 1280, 1281, 1282, 1283, 1284] (by decide +kernel) (by decide +kernel)
set_option maxRecDepth 20000 in
theorem gL_law_X6_cut : GoodIn wsL_law (wsV RL 23 RX6 yX6_cut wsX6_cut) := goodIn_app (goodIn_of _ (by decide +kernel)) ggL_law_X6_cut
set_option maxRecDepth 20000 in
theorem ggL_law_X7_cut : GoodIn wsL_law wsX7_cut := goodIn_r _ [340, 239, 240, 5, 241, 113, 114, 115, 242, 243, 244, 245, 85, 246, 247, 248, 249, 116, 117, 118, 119, 87, 120, 250, 251, 252, 253, 91, 254, 255, 256, 257, 258, 259, 260, 261, 262, 263, 264, 265, 266, 267, 268, 269, 270, 271, 272, 273, 274, 275, 276, 92, 277, 278, 279, 280, 281, 282, 283, 341, 342, 343, 344, 288, 293, 294, 295, 296, 289, 290, 291, 292, 88, 89, 297, 298, 299, 300, 305, 306, 307, 308, 309, 310, 311, 312, 94, 313, 314, 315, 316, 317, 318, 319, 320, 1221, 1222, 1223, 1224, 1225, 1226, 1227, 1228, 1229, 1230, 1231, 1232, 1233, 1234, 1235, 1236, 1237, 1238, 1239, 1240, 1241, 1242, 1243, 1244] (by decide +kernel) (by decide +kernel)
set_option maxRecDepth 20000 in
theorem gL_law_X7_cut : GoodIn wsL_law (wsV RL 26 RX7 yX7_cut wsX7_cut) := goodIn_app (goodIn_of _ (by decide +kernel)) ggL_law_X7_cut
set_option maxRecDepth 20000 in
theorem ggL_law_X6_back : GoodIn wsL_law wsX6_back := goodIn_r _ [348, 16, 325, 134, 2, 135, 349, 350, 351, 352, 104, 105, 106, 107, 30, 108, 327, 139, 140, 15, 141, 40, 142, 143, 144, 145, 146, 147, 148, 44, 149, 150, 151, 43, 152, 62, 153, 154, 155, 39, 156, 133, 49, 50, 48, 157, 158, 159, 129, 130, 131, 132, 54, 160, 161, 162, 163, 164, 165, 166, 167, 63, 168, 169, 170, 171, 61, 64, 172, 173, 174, 175, 176, 177, 178, 353, 231, 232, 233, 234, 188, 189, 190, 191, 192, 193, 194, 195, 196, 197, 55, 198, 199, 200, 201, 206, 207, 208, 209, 51, 52, 53, 210, 211, 212, 213, 214, 215, 216, 217, 218, 219, 220, 221, 222, 223, 224, 225, 226, 227, 228, 229, 230, 1214, 1215, 1216, 1217, 1218, 1219, 1220, 1245, 1246, 1247, 1248, 1249, 1250, 1251, 1252, 1253, 1269, 1270, 1271, 1272, 1273, 1274, 1275, 1276, 1277, 1278, 1279, 1280, 1281, 1282, 1283, 1284] (by decide +kernel) (by decide +kernel)
set_option maxRecDepth 20000 in
theorem gL_law_X6_back : GoodIn wsL_law (wsV RL 27 RX6 yX6_back wsX6_back) := goodIn_app (goodIn_of _ (by decide +kernel)) ggL_law_X6_back
set_option maxRecDepth 20000 in
theorem ggL_law_X7_back : GoodIn wsL_law wsX7_back := goodIn_r _ [357, 239, 240, 5, 241, 113, 114, 115, 358, 359, 360, 361, 85, 116, 117, 118, 119, 87, 120, 250, 251, 252, 253, 91, 254, 255, 256, 257, 258, 259, 260, 261, 262, 263, 264, 265, 266, 267, 268, 242, 243, 244, 245, 246, 247, 248, 249, 269, 270, 271, 272, 273, 274, 275, 276, 92, 277, 278, 279, 280, 281, 282, 283, 362, 363, 364, 365, 288, 289, 290, 291, 292, 88, 89, 293, 294, 295, 296, 297, 298, 299, 300, 305, 306, 307, 308, 309, 310, 311, 312, 94, 313, 314, 315, 316, 317, 318, 319, 320, 1221, 1222, 1223, 1224, 1225, 1226, 1227, 1228, 1229, 1230, 1231, 1232, 1233, 1234, 1235, 1236, 1237, 1238, 1239, 1240, 1241, 1242, 1243, 1244] (by decide +kernel) (by decide +kernel)
set_option maxRecDepth 20000 in
theorem gL_law_X7_back : GoodIn wsL_law (wsV RL 31 RX7 yX7_back wsX7_back) := goodIn_app (goodIn_of _ (by decide +kernel)) ggL_law_X7_back
set_option maxRecDepth 20000 in
theorem ggL_law_X6_half : GoodIn wsL_law wsX6_half := goodIn_r _ [369, 16, 325, 134, 2, 135, 349, 350, 351, 352, 104, 105, 106, 107, 30, 108, 327, 139, 140, 15, 141, 40, 142, 143, 144, 145, 146, 147, 148, 44, 149, 150, 151, 43, 152, 62, 153, 154, 155, 39, 156, 133, 49, 50, 48, 157, 158, 159, 129, 130, 131, 132, 54, 160, 161, 162, 163, 164, 165, 166, 167, 63, 168, 169, 170, 171, 61, 64, 172, 173, 174, 175, 176, 177, 178, 370, 371, 372, 373, 191, 192, 193, 194, 195, 196, 197, 353, 231, 232, 233, 234, 188, 189, 190, 55, 198, 199, 200, 201, 206, 207, 208, 209, 51, 52, 53, 210, 211, 212, 213, 214, 215, 216, 217, 218, 219, 220, 221, 222, 223, 224, 225, 226, 227, 228, 229, 230, 1214, 1215, 1216, 1217, 1218, 1219, 1220, 1245, 1246, 1247, 1248, 1249, 1250, 1251, 1252, 1253, 1269, 1270, 1271, 1272, 1273, 1274, 1275, 1276, 1277, 1278, 1279, 1280, 1281, 1282, 1283, 1284] (by decide +kernel) (by decide +kernel)
set_option maxRecDepth 20000 in
theorem gL_law_X6_half : GoodIn wsL_law (wsV RL 32 RX6 yX6_half wsX6_half) := goodIn_app (goodIn_of _ (by decide +kernel)) ggL_law_X6_half
set_option maxRecDepth 20000 in
theorem ggL_law_X7_half : GoodIn wsL_law wsX7_half := goodIn_r _ [377, 288, 85, 239, 240, 5, 241, 113, 114, 115, 358, 359, 360, 361, 116, 117, 118, 119, 87, 120, 250, 251, 252, 253, 91, 254, 255, 256, 257, 258, 259, 260, 261, 262, 263, 264, 265, 266, 267, 268, 242, 243, 244, 245, 246, 247, 248, 249, 269, 270, 271, 272, 273, 274, 275, 276, 92, 277, 278, 279, 289, 290, 291, 292, 88, 89, 293, 294, 295, 296, 297, 298, 299, 300, 280, 281, 282, 283, 305, 306, 307, 308, 309, 310, 311, 312, 94, 313, 314, 315, 316, 317, 318, 319, 320, 1221, 1222, 1223, 1224, 1225, 1226, 1227, 1228, 1229, 1230, 1231, 1232, 1233, 1234, 1235, 1236, 1237, 1238, 1239, 1240, 1241, 1242, 1243, 1244] (by decide +kernel) (by decide +kernel)
set_option maxRecDepth 20000 in
theorem gL_law_X7_half : GoodIn wsL_law (wsV RL 35 RX7 yX7_half wsX7_half) := goodIn_app (goodIn_of _ (by decide +kernel)) ggL_law_X7_half
set_option maxRecDepth 20000 in
theorem ggL_law_X6_shut : GoodIn wsL_law wsX6_shut := goodIn_r _ [381, 16, 325, 134, 2, 135, 104, 105, 106, 107, 30, 108, 327, 139, 140, 15, 141, 40, 142, 143, 144, 145, 146, 147, 148, 44, 149, 150, 151, 43, 152, 62, 153, 154, 155, 39, 156, 133, 49, 50, 48, 157, 158, 159, 129, 130, 131, 132, 54, 160, 161, 162, 163, 164, 165, 166, 167, 63, 168, 169, 170, 171, 61, 64, 172, 173, 174, 175, 176, 177, 178, 382, 383, 384, 385, 386, 387, 388, 389, 187, 188, 189, 190, 191, 192, 193, 194, 195, 196, 197, 55, 198, 199, 200, 201, 206, 207, 208, 209, 51, 52, 53, 210, 211, 212, 213, 214, 215, 216, 217, 218, 219, 220, 221, 222, 223, 224, 225, 226, 227, 228, 229, 230, 231, 232, 233, 234, 1214, 1215, 1216, 1217, 1218, 1219, 1220, 1245, 1246, 1247, 1248, 1249, 1250, 1251, 1252, 1253, 1279, 1280, 1281, 1282, 1283, 1284, 1269, 1270, 1271, 1272, 1273, 1274, 1275, 1276, 1277, 1278] (by decide +kernel) (by decide +kernel)
set_option maxRecDepth 20000 in
theorem gL_law_X6_shut : GoodIn wsL_law (wsV RL 36 RX6 yX6_shut wsX6_shut) := goodIn_app (goodIn_of _ (by decide +kernel)) ggL_law_X6_shut
set_option maxRecDepth 20000 in
theorem ggL_law_X7_shut : GoodIn wsL_law wsX7_shut := goodIn_r _ [393, 85, 239, 240, 5, 241, 113, 114, 115, 116, 117, 118, 119, 87, 120, 250, 251, 252, 253, 91, 254, 255, 256, 257, 258, 259, 260, 261, 262, 263, 264, 265, 266, 267, 268, 242, 243, 244, 245, 246, 247, 248, 249, 269, 270, 271, 272, 273, 274, 275, 276, 92, 277, 278, 279, 280, 281, 282, 283, 394, 395, 396, 397, 288, 289, 290, 291, 292, 88, 89, 293, 294, 295, 296, 297, 298, 299, 300, 305, 306, 307, 308, 309, 310, 311, 312, 94, 313, 314, 315, 316, 317, 318, 319, 320, 1221, 1222, 1223, 1224, 1225, 1226, 1227, 1228, 1229, 1230, 1231, 1232, 1233, 1234, 1235, 1236, 1237, 1238, 1239, 1240, 1241, 1242, 1243, 1244] (by decide +kernel) (by decide +kernel)
set_option maxRecDepth 20000 in
theorem gL_law_X7_shut : GoodIn wsL_law (wsV RL 39 RX7 yX7_shut wsX7_shut) := goodIn_app (goodIn_of _ (by decide +kernel)) ggL_law_X7_shut
set_option maxRecDepth 20000 in
theorem ggL_law_X6_talk : GoodIn wsL_law wsX6_talk := goodIn_r _ [401, 16, 325, 134, 2, 135, 104, 105, 106, 107, 30, 108, 327, 139, 140, 15, 141, 40, 142, 143, 144, 145, 146, 147, 148, 44, 149, 150, 151, 43, 152, 62, 153, 154, 155, 39, 156, 133, 49, 50, 48, 157, 158, 159, 129, 130, 131, 132, 54, 160, 161, 162, 163, 164, 165, 166, 167, 63, 168, 169, 170, 171, 61, 64, 172, 173, 174, 175, 176, 177, 178, 402, 403, 404, 405, 386, 387, 388, 389, 187, 188, 189, 190, 191, 192, 193, 194, 195, 196, 197, 55, 198, 199, 200, 201, 206, 207, 208, 209, 51, 52, 53, 210, 211, 212, 213, 214, 215, 216, 217, 218, 219, 220, 221, 222, 223, 224, 225, 226, 227, 228, 229, 230, 231, 232, 233, 234, 1214, 1215, 1216, 1217, 1218, 1219, 1220, 1245, 1246, 1247, 1248, 1249, 1250, 1251, 1252, 1253, 1279, 1280, 1281, 1282, 1283, 1284, 1269, 1270, 1271, 1272, 1273, 1274, 1275, 1276, 1277, 1278] (by decide +kernel) (by decide +kernel)
set_option maxRecDepth 20000 in
theorem gL_law_X6_talk : GoodIn wsL_law (wsV RL 40 RX6 yX6_talk wsX6_talk) := goodIn_app (goodIn_of _ (by decide +kernel)) ggL_law_X6_talk
set_option maxRecDepth 20000 in
theorem ggL_law_X7_talk : GoodIn wsL_law wsX7_talk := goodIn_r _ [409, 239, 240, 5, 241, 113, 114, 115, 116, 117, 118, 119, 87, 120, 250, 251, 252, 253, 85, 91, 254, 255, 256, 257, 258, 259, 260, 261, 262, 263, 264, 265, 266, 267, 268, 242, 243, 244, 245, 246, 247, 248, 249, 269, 270, 271, 272, 273, 274, 275, 276, 92, 277, 278, 279, 280, 281, 282, 283, 394, 395, 396, 397, 288, 289, 290, 291, 292, 88, 89, 293, 294, 295, 296, 297, 298, 299, 300, 305, 306, 307, 308, 309, 310, 311, 312, 94, 313, 314, 315, 316, 317, 318, 319, 320, 1221, 1222, 1223, 1224, 1225, 1226, 1227, 1228, 1229, 1230, 1231, 1232, 1233, 1234, 1235, 1236, 1237, 1238, 1239, 1240, 1241, 1242, 1243, 1244] (by decide +kernel) (by decide +kernel)
set_option maxRecDepth 20000 in
theorem gL_law_X7_talk : GoodIn wsL_law (wsV RL 43 RX7 yX7_talk wsX7_talk) := goodIn_app (goodIn_of _ (by decide +kernel)) ggL_law_X7_talk
set_option maxRecDepth 20000 in
theorem ggL_law_X6_actIs : GoodIn wsL_law wsX6_actIs := goodIn_r _ [413, 16, 414, 415, 416, 2, 417, 104, 105, 106, 107, 30, 108, 1214, 1215, 1216, 1217, 1218, 1219, 1220, 1245, 1246, 1247, 1248, 1249, 1250, 1251, 1252, 1253, 1269, 1270, 1271, 1272, 1273, 1274, 1275, 1276, 1277, 1278] (by decide +kernel) (by decide +kernel)
set_option maxRecDepth 20000 in
theorem gL_law_X6_actIs : GoodIn wsL_law (wsV RL 44 RX6 yX6_actIs wsX6_actIs) := goodIn_app (goodIn_of _ (by decide +kernel)) ggL_law_X6_actIs
set_option maxRecDepth 20000 in
theorem ggL_law_X7_actIs : GoodIn wsL_law wsX7_actIs := goodIn_r _ [421, 94, 422, 423, 424, 5, 425, 85, 113, 114, 115, 116, 117, 118, 119, 87, 120, 313, 314, 315, 316, 317, 318, 319, 320, 246, 247, 248, 249, 293, 294, 295, 296, 262, 263, 264, 265, 1221, 1222, 1223, 1224, 1225, 1226, 1227, 1228, 1229, 1230, 1231, 1232, 1233, 1234, 1235, 1236, 1237, 1238, 1239, 1240, 1241, 1242, 1243, 1244] (by decide +kernel) (by decide +kernel)
set_option maxRecDepth 20000 in
theorem gL_law_X7_actIs : GoodIn wsL_law (wsV RL 47 RX7 yX7_actIs wsX7_actIs) := goodIn_app (goodIn_of _ (by decide +kernel)) ggL_law_X7_actIs
set_option maxRecDepth 20000 in
theorem ggL_law_X6_as : GoodIn wsL_law wsX6_as := goodIn_r _ [429, 16, 414, 415, 416, 2, 417, 104, 105, 106, 107, 30, 108, 430, 158, 39, 159, 1214, 1215, 1216, 1217, 1218, 1219, 1220, 1245, 1246, 1247, 1248, 1249, 1250, 1251, 1252, 1253, 1269, 1270, 1271, 1272, 1273, 1274, 1275, 1276, 1277, 1278] (by decide +kernel) (by decide +kernel)
set_option maxRecDepth 20000 in
theorem gL_law_X6_as : GoodIn wsL_law (wsV RL 48 RX6 yX6_as wsX6_as) := goodIn_app (goodIn_of _ (by decide +kernel)) ggL_law_X6_as
set_option maxRecDepth 20000 in
theorem ggL_law_X7_as : GoodIn wsL_law wsX7_as := goodIn_r _ [434, 422, 423, 424, 5, 425, 85, 113, 114, 115, 116, 117, 118, 119, 87, 120, 262, 263, 264, 265, 266, 267, 268, 1221, 1222, 1223, 1224, 1225, 1226, 1227, 1228, 1229, 1230, 1231, 1232, 1233, 1234, 1235, 1236, 1237, 1238, 1239, 1240, 1241, 1242, 1243, 1244] (by decide +kernel) (by decide +kernel)
set_option maxRecDepth 20000 in
theorem gL_law_X7_as : GoodIn wsL_law (wsV RL 51 RX7 yX7_as wsX7_as) := goodIn_app (goodIn_of _ (by decide +kernel)) ggL_law_X7_as
set_option maxRecDepth 20000 in
theorem ggL_law_X6_word : GoodIn wsL_law wsX6_word := goodIn_r _ [438, 16, 349, 350, 351, 2, 352, 104, 105, 106, 107, 30, 108, 439, 215, 216, 39, 217, 55, 1214, 1215, 1216, 1217, 1218, 1219, 1220, 1245, 1246, 1247, 1248, 1249, 1250, 1251, 1252, 1253, 1269, 1270, 1271, 1272, 1273, 1274, 1275, 1276, 1277, 1278] (by decide +kernel) (by decide +kernel)
set_option maxRecDepth 20000 in
theorem gL_law_X6_word : GoodIn wsL_law (wsV RL 52 RX6 yX6_word wsX6_word) := goodIn_app (goodIn_of _ (by decide +kernel)) ggL_law_X6_word
set_option maxRecDepth 20000 in
theorem ggL_law_X7_word : GoodIn wsL_law wsX7_word := goodIn_r _ [443, 358, 359, 360, 5, 361, 85, 113, 114, 115, 246, 247, 248, 249, 116, 117, 118, 119, 87, 120, 293, 294, 295, 296, 1221, 1222, 1223, 1224, 1225, 1226, 1227, 1228, 1229, 1230, 1231, 1232, 1233, 1234, 1235, 1236, 1237, 1238, 1239, 1240, 1241, 1242, 1243, 1244] (by decide +kernel) (by decide +kernel)
set_option maxRecDepth 20000 in
theorem gL_law_X7_word : GoodIn wsL_law (wsV RL 55 RX7 yX7_word wsX7_word) := goodIn_app (goodIn_of _ (by decide +kernel)) ggL_law_X7_word
set_option maxRecDepth 20000 in
theorem ggL_law_X6_origin : GoodIn wsL_law wsX6_origin := goodIn_r _ [447, 16, 349, 350, 351, 2, 352, 104, 105, 106, 107, 30, 108, 448, 449, 450, 39, 451, 55, 1214, 1215, 1216, 1217, 1218, 1219, 1220, 1245, 1246, 1247, 1248, 1249, 1250, 1251, 1252, 1253, 1269, 1270, 1271, 1272, 1273, 1274, 1275, 1276, 1277, 1278] (by decide +kernel) (by decide +kernel)
set_option maxRecDepth 20000 in
theorem gL_law_X6_origin : GoodIn wsL_law (wsV RL 56 RX6 yX6_origin wsX6_origin) := goodIn_app (goodIn_of _ (by decide +kernel)) ggL_law_X6_origin
set_option maxRecDepth 20000 in
theorem ggL_law_X7_origin : GoodIn wsL_law wsX7_origin := goodIn_r _ [455, 358, 359, 360, 5, 361, 85, 113, 114, 115, 246, 247, 248, 249, 297, 298, 299, 300, 116, 117, 118, 119, 87, 120, 1221, 1222, 1223, 1224, 1225, 1226, 1227, 1228, 1229, 1230, 1231, 1232, 1233, 1234, 1235, 1236, 1237, 1238, 1239, 1240, 1241, 1242, 1243, 1244] (by decide +kernel) (by decide +kernel)
set_option maxRecDepth 20000 in
theorem gL_law_X7_origin : GoodIn wsL_law (wsV RL 59 RX7 yX7_origin wsX7_origin) := goodIn_app (goodIn_of _ (by decide +kernel)) ggL_law_X7_origin
set_option maxRecDepth 20000 in
theorem ggL_law_X6_may : GoodIn wsL_law wsX6_may := goodIn_r _ [459, 16, 325, 134, 2, 135, 104, 105, 106, 107, 30, 108, 460, 143, 144, 15, 145, 146, 147, 148, 44, 40, 149, 150, 151, 43, 152, 62, 153, 154, 155, 39, 156, 133, 49, 50, 48, 157, 158, 159, 129, 130, 131, 132, 54, 160, 161, 162, 163, 164, 165, 166, 167, 63, 168, 169, 170, 171, 61, 64, 172, 173, 174, 1214, 1215, 1216, 1217, 1218, 1219, 1220, 1245, 1246, 1247, 1248, 1249, 1250, 1251, 1252, 1253, 1279, 1280, 1281, 1282, 1283, 1284, 1269, 1270, 1271, 1272, 1273, 1274, 1275, 1276, 1277, 1278] (by decide +kernel) (by decide +kernel)
set_option maxRecDepth 20000 in
theorem gL_law_X6_may : GoodIn wsL_law (wsV RL 60 RX6 yX6_may wsX6_may) := goodIn_app (goodIn_of _ (by decide +kernel)) ggL_law_X6_may
set_option maxRecDepth 20000 in
theorem ggL_law_X7_may : GoodIn wsL_law wsX7_may := goodIn_r _ [464, 239, 240, 5, 241, 113, 114, 115, 116, 117, 118, 119, 87, 120, 250, 251, 252, 253, 85, 91, 254, 255, 256, 257, 258, 259, 260, 261, 262, 263, 264, 265, 266, 267, 268, 242, 243, 244, 245, 246, 247, 248, 249, 269, 270, 271, 272, 273, 274, 275, 276, 92, 277, 278, 279, 1221, 1222, 1223, 1224, 1225, 1226, 1227, 1228, 1229, 1230, 1231, 1232, 1233, 1234, 1235, 1236, 1237, 1238, 1239, 1240, 1241, 1242, 1243, 1244] (by decide +kernel) (by decide +kernel)
set_option maxRecDepth 20000 in
theorem gL_law_X7_may : GoodIn wsL_law (wsV RL 63 RX7 yX7_may wsX7_may) := goodIn_app (goodIn_of _ (by decide +kernel)) ggL_law_X7_may
set_option maxRecDepth 20000 in
theorem ggL_law_X6_feed : GoodIn wsL_law wsX6_feed := goodIn_r _ [468, 16, 104, 105, 106, 2, 107, 30, 108, 469, 470, 471, 43, 472, 60, 473, 1214, 1215, 1216, 1217, 1218, 1219, 1220, 1245, 1246, 1247, 1248, 1249, 1250, 1251, 1252, 1253, 1279, 1280, 1281, 1282, 1283, 1284] (by decide +kernel) (by decide +kernel)
set_option maxRecDepth 20000 in
theorem gL_law_X6_feed : GoodIn wsL_law (wsV RL 66 RX6 yX6_feed wsX6_feed) := goodIn_app (goodIn_of _ (by decide +kernel)) ggL_law_X6_feed
set_option maxRecDepth 20000 in
theorem ggL_law_X7_feed : GoodIn wsL_law wsX7_feed := goodIn_r _ [477, 85, 478, 113, 114, 5, 115, 116, 117, 118, 119, 87, 120, 1221, 1222, 1223, 1224, 1225, 1226, 1227, 1228, 1229, 1230, 1231, 1232, 1233, 1234, 1235, 1236, 1237, 1238, 1239, 1240, 1241, 1242, 1243, 1244] (by decide +kernel) (by decide +kernel)
set_option maxRecDepth 20000 in
theorem gL_law_X7_feed : GoodIn wsL_law (wsV RL 70 RX7 yX7_feed wsX7_feed) := goodIn_app (goodIn_of _ (by decide +kernel)) ggL_law_X7_feed
set_option maxRecDepth 20000 in
theorem ggL_law_X6_text : GoodIn wsL_law wsX6_text := goodIn_r _ [482, 20, 16, 483, 484, 2, 485, 104, 105, 106, 107, 30, 108, 486, 487, 488, 19, 489, 490, 491, 68, 492, 69, 70, 493, 494, 495, 496, 497, 498, 499, 500, 501, 502, 503, 504, 505, 506, 507, 508, 509, 510, 511, 512, 513, 514, 515, 516, 517, 518, 519, 520, 521, 522, 523, 524, 525, 526, 527, 528, 529, 530, 531, 532, 533, 534, 535, 536, 537, 538, 539, 540, 541, 542, 543, 544, 545, 546, 547, 548, 549, 196, 193, 197, 550, 192, 194, 551, 552, 553, 554, 555, 556, 557, 558, 559, 560, 561, 562, 563, 564, 565, 566, 567, 568, 569, 570, 571, 572, 573, 574, 575, 576, 577, 578, 579, 580, 581, 582, 583, 584, 585, 586, 587, 588, 589, 590, 591, 592, 593, 594, 595, 596, 597, 598, 599, 600, 601, 602, 603, 604, 605, 606, 607, 608, 609, 610, 611, 612, 613, 614, 43, 615, 61, 616, 199, 200, 201, 62, 1214, 1215, 1216, 1217, 1218, 1219, 1220, 1245, 1246, 1247, 1248, 1249, 1250, 1251, 1252, 1253, 1254, 1255, 1256, 1257, 1258, 1259, 1279, 1280, 1281, 1282, 1283, 1284] (by decide +kernel) (by decide +kernel)
set_option maxRecDepth 20000 in
theorem gL_law_X6_text : GoodIn wsL_law (wsV RL 71 RX6 yX6_text wsX6_text) := goodIn_app (goodIn_of _ (by decide +kernel)) ggL_law_X6_text
set_option maxRecDepth 20000 in
theorem ggL_law_X7_text : GoodIn wsL_law wsX7_text := goodIn_r _ [620, 621, 622, 623, 624, 85, 90, 113, 114, 5, 115, 116, 117, 118, 119, 87, 120, 625, 626, 627, 628, 629, 630, 631, 632, 633, 634, 635, 636, 637, 638, 639, 640, 641, 642, 643, 644, 645, 646, 647, 648, 649, 650, 651, 652, 653, 654, 655, 656, 657, 658, 659, 660, 661, 662, 663, 664, 1221, 1222, 1223, 1224, 1225, 1226, 1227, 1228, 1229, 1230, 1231, 1232, 1233, 1234, 1235, 1236, 1237, 1238, 1239, 1240, 1241, 1242, 1243, 1244] (by decide +kernel) (by decide +kernel)
set_option maxRecDepth 20000 in
theorem gL_law_X7_text : GoodIn wsL_law (wsV RL 74 RX7 yX7_text wsX7_text) := goodIn_app (goodIn_of _ (by decide +kernel)) ggL_law_X7_text
