theorem mem_r {big ws : List Cond} (ps : List Nat) (hp : ws = ps.filterMap (fun i => big[i]?)) : ∀ w ∈ ws, w ∈ big := by
  intro w hw
  rw [hp] at hw
  obtain ⟨i, -, hi⟩ := List.mem_filterMap.mp hw
  exact List.mem_of_getElem? hi
set_option maxRecDepth 20000 in
theorem wsL_law_r1_in : ∀ w ∈ wsL_law_r1, w ∈ lw_tbl := mem_r [93, 94, 78, 986, 987, 85, 1490, 95, 96, 97, 98, 99, 100, 101, 102, 79, 296, 223, 224, 82, 297, 250, 251, 83] rfl
set_option maxRecDepth 20000 in
theorem wsL_law_r2_in : ∀ w ∈ wsL_law_r2, w ∈ lw_tbl := mem_r [298, 278, 279, 84, 299, 158, 300, 104, 105, 106, 192, 196, 198, 107, 108, 80, 200, 159, 160, 81, 202, 110, 111, 112] rfl
set_option maxRecDepth 20000 in
theorem wsL_law_r3_in : ∀ w ∈ wsL_law_r3, w ∈ lw_tbl := mem_r [116, 120, 124, 126, 128, 130, 132, 135, 136, 162, 163, 164, 168, 170, 171, 172, 173, 226, 227, 228, 233, 234, 235, 253] rfl
set_option maxRecDepth 20000 in
theorem wsL_law_r4_in : ∀ w ∈ wsL_law_r4, w ∈ lw_tbl := mem_r [254, 255, 263, 281, 282, 283, 284, 286, 288, 988, 989, 990, 991, 992, 993, 995, 996, 997, 1003, 1004, 1005, 1006, 1007, 1008] rfl
set_option maxRecDepth 20000 in
theorem wsL_law_r5_in : ∀ w ∈ wsL_law_r5, w ∈ lw_tbl := mem_r [1012, 1013, 1014, 1015, 318, 319, 320, 321, 322, 324, 0, 325, 326, 1065, 1066, 1067, 1068, 1069, 1070, 1071, 1072, 1074, 21, 1075] rfl
set_option maxRecDepth 20000 in
theorem wsL_law_r6_in : ∀ w ∈ wsL_law_r6, w ∈ lw_tbl := mem_r [1076, 327, 328, 329, 330, 331, 332, 333, 334, 335, 336, 337, 338, 113, 340, 341, 343, 344, 345, 346, 347, 348, 349, 350] rfl
set_option maxRecDepth 20000 in
theorem wsL_law_r7_in : ∀ w ∈ wsL_law_r7, w ∈ lw_tbl := mem_r [351, 352, 187, 189, 191, 353, 354, 355, 356, 357, 358, 359, 360, 361, 362, 363, 366, 367, 368, 369, 370, 371, 372, 373] rfl
set_option maxRecDepth 20000 in
theorem wsL_law_r8_in : ∀ w ∈ wsL_law_r8, w ∈ lw_tbl := mem_r [374, 375, 376, 377, 378, 379, 380, 381, 382, 383, 384, 385, 386, 387, 388, 389, 390, 391, 392, 393, 394, 395, 396, 397] rfl
set_option maxRecDepth 20000 in
theorem wsL_law_r9_in : ∀ w ∈ wsL_law_r9, w ∈ lw_tbl := mem_r [398, 86, 399, 400, 401, 402, 403, 405, 404, 87, 406, 407, 408, 409, 410, 411, 412, 413, 414, 415, 416, 417, 418, 419] rfl
set_option maxRecDepth 20000 in
theorem wsL_law_r10_in : ∀ w ∈ wsL_law_r10, w ∈ lw_tbl := mem_r [420, 421, 422, 424, 1, 425, 426, 427, 428, 429, 430, 431, 432, 433, 434, 435, 436, 437, 438, 1077, 1078, 1079, 1080, 1081] rfl
set_option maxRecDepth 20000 in
theorem wsL_law_r11_in : ∀ w ∈ wsL_law_r11, w ∈ lw_tbl := mem_r [1082, 1083, 1084, 1086, 22, 1087, 1088, 1090, 23, 1091, 1092, 1094, 24, 1095, 1096, 1098, 25, 1099, 1100, 1102, 26, 1103, 1104, 1106] rfl
set_option maxRecDepth 20000 in
theorem wsL_law_r12_in : ∀ w ∈ wsL_law_r12, w ∈ lw_tbl := mem_r [27, 1107, 1108, 1109, 1110, 1111, 1113, 28, 1114, 1115, 1117, 29, 1118, 1119, 1120, 1121, 1122, 1124, 30, 1125, 1126, 1128, 31, 1129] rfl
set_option maxRecDepth 20000 in
theorem wsL_law_r13_in : ∀ w ∈ wsL_law_r13, w ∈ lw_tbl := mem_r [998, 1130, 1132, 32, 1133, 1134, 1136, 33, 1137, 1138, 1140, 34, 1141, 1142, 1144, 35, 1145, 1146, 1148, 36, 1149, 1150, 1152, 37] rfl
