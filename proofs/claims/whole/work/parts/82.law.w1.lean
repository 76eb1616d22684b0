set_option maxRecDepth 20000 in
theorem wsL_law_r14_in : ∀ w ∈ wsL_law_r14, w ∈ lw_tbl := mem_r [1153, 1154, 1156, 38, 1157, 1158, 1160, 39, 1161, 439, 440, 441, 442, 443, 444, 445, 446, 447, 448, 449, 450, 451, 452, 453] rfl
set_option maxRecDepth 20000 in
theorem wsL_law_r15_in : ∀ w ∈ wsL_law_r15, w ∈ lw_tbl := mem_r [454, 1162, 1163, 1164, 1165, 1166, 1168, 40, 1169, 455, 456, 457, 458, 459, 461, 2, 462, 463, 1170, 1171, 1172, 1173, 1174, 1176] rfl
set_option maxRecDepth 20000 in
theorem wsL_law_r16_in : ∀ w ∈ wsL_law_r16, w ∈ lw_tbl := mem_r [41, 1177, 1178, 1180, 42, 1181, 464, 465, 466, 467, 468, 469, 470, 471, 1182, 1183, 1184, 1185, 472, 473, 474, 475, 476, 477] rfl
set_option maxRecDepth 20000 in
theorem wsL_law_r17_in : ∀ w ∈ wsL_law_r17, w ∈ lw_tbl := mem_r [478, 479, 480, 481, 482, 483, 1186, 1187, 1188, 1189, 1190, 1192, 43, 1193, 484, 485, 486, 487, 488, 489, 490, 491, 1194, 1195] rfl
set_option maxRecDepth 20000 in
theorem wsL_law_r18_in : ∀ w ∈ wsL_law_r18, w ∈ lw_tbl := mem_r [1196, 1197, 492, 493, 494, 495, 496, 498, 3, 499, 1198, 1199, 1200, 1201, 1202, 1204, 44, 1205, 500, 501, 502, 503, 504, 1206] rfl
set_option maxRecDepth 20000 in
theorem wsL_law_r19_in : ∀ w ∈ wsL_law_r19, w ∈ lw_tbl := mem_r [1207, 1208, 1209, 505, 506, 507, 508, 509, 1210, 1211, 1212, 1213, 510, 511, 512, 513, 514, 515, 516, 517, 1214, 1215, 1216, 1217] rfl
set_option maxRecDepth 20000 in
theorem wsL_law_r20_in : ∀ w ∈ wsL_law_r20, w ∈ lw_tbl := mem_r [518, 519, 520, 521, 522, 1218, 1219, 1220, 1221, 523, 524, 525, 526, 527, 528, 529, 530, 165, 1222, 1223, 1224, 1225, 1226, 531] rfl
set_option maxRecDepth 20000 in
theorem wsL_law_r21_in : ∀ w ∈ wsL_law_r21, w ∈ lw_tbl := mem_r [532, 533, 534, 535, 536, 537, 538, 539, 540, 541, 230, 231, 232, 544, 546, 4, 547, 548, 550, 5, 657, 659, 11, 660] rfl
set_option maxRecDepth 20000 in
theorem wsL_law_r22_in : ∀ w ∈ wsL_law_r22, w ∈ lw_tbl := mem_r [552, 554, 6, 555, 563, 565, 8, 566, 652, 551, 556, 557, 558, 559, 561, 7, 562, 567, 568, 569, 88, 570, 571, 572] rfl
set_option maxRecDepth 20000 in
theorem wsL_law_r23_in : ∀ w ∈ wsL_law_r23, w ∈ lw_tbl := mem_r [573, 574, 1492, 575, 576, 577, 578, 579, 1491, 581, 582, 583, 584, 585, 586, 587, 588, 589, 590, 89, 591, 595, 596, 592] rfl
set_option maxRecDepth 20000 in
theorem wsL_law_r24_in : ∀ w ∈ wsL_law_r24, w ∈ lw_tbl := mem_r [593, 594, 597, 598, 599, 600, 601, 90, 602, 603, 604, 605, 606, 607, 608, 609, 610, 611, 612, 613, 614, 615, 616, 617] rfl
set_option maxRecDepth 20000 in
theorem wsL_law_r25_in : ∀ w ∈ wsL_law_r25, w ∈ lw_tbl := mem_r [618, 620, 621, 91, 622, 623, 624, 625, 626, 627, 628, 629, 631, 633, 635, 636, 637, 638, 639, 92, 640, 641, 642, 643] rfl
set_option maxRecDepth 20000 in
theorem wsL_law_r26_in : ∀ w ∈ wsL_law_r26, w ∈ lw_tbl := mem_r [644, 645, 646, 647, 648, 649, 651, 9, 653, 655, 10, 656, 661, 662, 663, 664, 665, 1227, 1228, 1229, 1230, 1002, 999, 1000] rfl
