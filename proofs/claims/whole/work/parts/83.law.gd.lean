set_option maxRecDepth 20000 in
theorem ggL_law_X6_may : GoodIn wsL_law wsX6_may := goodIn_r _ [459, 16, 325, 134, 2, 135, 104, 105, 106, 107, 30, 108, 460, 143, 144, 15, 145, 146, 147, 148, 44, 40, 149, 150, 151, 43, 152, 62, 153, 154, 155, 39, 156, 133, 49, 50, 48, 157, 158, 159, 129, 130, 131, 132, 54, 160, 161, 162, 163, 164, 165, 166, 167, 63, 168, 169, 170, 171, 61, 64, 172, 173, 174, 1214, 1215, 1216, 1217, 1218, 1219, 1220, 1245, 1246, 1247, 1248, 1249, 1250, 1251, 1252, 1253, 1279, 1280, 1281, 1282, 1283, 1284, 1269, 1270, 1271, 1272, 1273, 1274, 1275, 1276, 1277, 1278] (by decide +kernel) (by decide +kernel)
set_option maxRecDepth 20000 in
theorem gL_law_X6_may : GoodIn wsL_law (wsV RL 60 RX6 yX6_may wsX6_may) := goodIn_app (goodIn_of _ (by decide +kernel)) ggL_law_X6_may
set_option maxRecDepth 20000 in
theorem ggL_law_X7_may : GoodIn wsL_law wsX7_may := goodIn_r _ [464, 239, 240, 5, 241, 113, 114, 115, 116, 117, 118, 119, 87, 120, 250, 251, 252, 253, 85, 91, 254, 255, 256, 257, 258, 259, 260, 261, 262, 263, 264, 265, 266, 267, 268, 242, 243, 244, 245, 246, 247, 248, 249, 269, 270, 271, 272, 273, 274, 275, 276, 92, 277, 278, 279, 1221, 1222, 1223, 1224, 1225, 1226, 1227, 1228, 1229, 1230, 1231, 1232, 1233, 1234, 1235, 1236, 1237, 1238, 1239, 1240, 1241, 1242, 1243, 1244] (by decide +kernel) (by decide +kernel)
set_option maxRecDepth 20000 in
theorem gL_law_X7_may : GoodIn wsL_law (wsV RL 63 RX7 yX7_may wsX7_may) := goodIn_app (goodIn_of _ (by decide +kernel)) ggL_law_X7_may
set_option maxRecDepth 20000 in
theorem ggL_law_X6_feed : GoodIn wsL_law wsX6_feed := goodIn_r _ [468, 16, 104, 105, 106, 2, 107, 30, 108, 469, 470, 471, 43, 472, 60, 473, 1214, 1215, 1216, 1217, 1218, 1219, 1220, 1245, 1246, 1247, 1248, 1249, 1250, 1251, 1252, 1253, 1279, 1280, 1281, 1282, 1283, 1284] (by decide +kernel) (by decide +kernel)
set_option maxRecDepth 20000 in
theorem gL_law_X6_feed : GoodIn wsL_law (wsV RL 66 RX6 yX6_feed wsX6_feed) := goodIn_app (goodIn_of _ (by decide +kernel)) ggL_law_X6_feed
set_option maxRecDepth 20000 in
theorem ggL_law_X7_feed : GoodIn wsL_law wsX7_feed := goodIn_r _ [477, 85, 478, 113, 114, 5, 115, 116, 117, 118, 119, 87, 120, 1221, 1222, 1223, 1224, 1225, 1226, 1227, 1228, 1229, 1230, 1231, 1232, 1233, 1234, 1235, 1236, 1237, 1238, 1239, 1240, 1241, 1242, 1243, 1244] (by decide +kernel) (by decide +kernel)
set_option maxRecDepth 20000 in
theorem gL_law_X7_feed : GoodIn wsL_law (wsV RL 70 RX7 yX7_feed wsX7_feed) := goodIn_app (goodIn_of _ (by decide +kernel)) ggL_law_X7_feed
set_option maxRecDepth 20000 in
theorem ggL_law_X6_text : GoodIn wsL_law wsX6_text := goodIn_r _ [482, 20, 16, 483, 484, 2, 485, 104, 105, 106, 107, 30, 108, 486, 487, 488, 19, 489, 490, 491, 68, 492, 69, 70, 493, 494, 495, 496, 497, 498, 499, 500, 501, 502, 503, 504, 505, 506, 507, 508, 509, 510, 511, 512, 513, 514, 515, 516, 517, 518, 519, 520, 521, 522, 523, 524, 525, 526, 527, 528, 529, 530, 531, 532, 533, 534, 535, 536, 537, 538, 539, 540, 541, 542, 543, 544, 545, 546, 547, 548, 549, 196, 193, 197, 550, 192, 194, 551, 552, 553, 554, 555, 556, 557, 558, 559, 560, 561, 562, 563, 564, 565, 566, 567, 568, 569, 570, 571, 572, 573, 574, 575, 576, 577, 578, 579, 580, 581, 582, 583, 584, 585, 586, 587, 588, 589, 590, 591, 592, 593, 594, 595, 596, 597, 598, 599, 600, 601, 602, 603, 604, 605, 606, 607, 608, 609, 610, 611, 612, 613, 614, 43, 615, 61, 616, 199, 200, 201, 62, 1214, 1215, 1216, 1217, 1218, 1219, 1220, 1245, 1246, 1247, 1248, 1249, 1250, 1251, 1252, 1253, 1254, 1255, 1256, 1257, 1258, 1259, 1279, 1280, 1281, 1282, 1283, 1284] (by decide +kernel) (by decide +kernel)
set_option maxRecDepth 20000 in
theorem gL_law_X6_text : GoodIn wsL_law (wsV RL 71 RX6 yX6_text wsX6_text) := goodIn_app (goodIn_of _ (by decide +kernel)) ggL_law_X6_text
set_option maxRecDepth 20000 in
theorem ggL_law_X7_text : GoodIn wsL_law wsX7_text := goodIn_r _ [620, 621, 622, 623, 624, 85, 90, 113, 114, 5, 115, 116, 117, 118, 119, 87, 120, 625, 626, 627, 628, 629, 630, 631, 632, 633, 634, 635, 636, 637, 638, 639, 640, 641, 642, 643, 644, 645, 646, 647, 648, 649, 650, 651, 652, 653, 654, 655, 656, 657, 658, 659, 660, 661, 662, 663, 664, 1221, 1222, 1223, 1224, 1225, 1226, 1227, 1228, 1229, 1230, 1231, 1232, 1233, 1234, 1235, 1236, 1237, 1238, 1239, 1240, 1241, 1242, 1243, 1244] (by decide +kernel) (by decide +kernel)
set_option maxRecDepth 20000 in
theorem gL_law_X7_text : GoodIn wsL_law (wsV RL 74 RX7 yX7_text wsX7_text) := goodIn_app (goodIn_of _ (by decide +kernel)) ggL_law_X7_text
set_option maxRecDepth 20000 in
theorem ggL_law_X6_untell : GoodIn wsL_law wsX6_untell := goodIn_r _ [668, 16, 483, 484, 2, 485, 104, 105, 106, 107, 30, 108, 669, 670, 671, 43, 672, 62, 673, 150, 151, 152, 1214, 1215, 1216, 1217, 1218, 1219, 1220, 1245, 1246, 1247, 1248, 1249, 1250, 1251, 1252, 1253, 1279, 1280, 1281, 1282, 1283, 1284] (by decide +kernel) (by decide +kernel)
set_option maxRecDepth 20000 in
theorem gL_law_X6_untell : GoodIn wsL_law (wsV RL 75 RX6 yX6_untell wsX6_untell) := goodIn_app (goodIn_of _ (by decide +kernel)) ggL_law_X6_untell
set_option maxRecDepth 20000 in
theorem ggL_law_X7_untell : GoodIn wsL_law wsX7_untell := goodIn_r _ [677, 85, 113, 114, 5, 115, 116, 117, 118, 119, 87, 120, 254, 255, 256, 257, 1221, 1222, 1223, 1224, 1225, 1226, 1227, 1228, 1229, 1230, 1231, 1232, 1233, 1234, 1235, 1236, 1237, 1238, 1239, 1240, 1241, 1242, 1243, 1244] (by decide +kernel) (by decide +kernel)
set_option maxRecDepth 20000 in
theorem gL_law_X7_untell : GoodIn wsL_law (wsV RL 78 RX7 yX7_untell wsX7_untell) := goodIn_app (goodIn_of _ (by decide +kernel)) ggL_law_X7_untell
