set_option maxRecDepth 20000 in
theorem inX0 : ∀ w ∈ wsX00, w ∈ lw_tbl := mem_r [137, 139, 141, 143, 145, 147, 149, 151, 153, 155] rfl
set_option maxRecDepth 20000 in
theorem inX1 : ∀ w ∈ wsX10, w ∈ lw_tbl := mem_r [204, 206, 208, 210, 212, 214, 216, 218, 220] rfl
set_option maxRecDepth 20000 in
theorem inX2 : ∀ w ∈ wsX20, w ∈ lw_tbl := mem_r [236, 238, 240, 242, 244, 246] rfl
set_option maxRecDepth 20000 in
theorem inX3 : ∀ w ∈ wsX30, w ∈ lw_tbl := mem_r [289, 291, 293] rfl
set_option maxRecDepth 20000 in
theorem inX4 : ∀ w ∈ wsX40, w ∈ lw_tbl := mem_r [174, 176, 178, 180, 182, 184] rfl
set_option maxRecDepth 20000 in
theorem inX5 : ∀ w ∈ wsX50, w ∈ lw_tbl := mem_r [265, 267, 269, 271, 273, 275] rfl
set_option maxRecDepth 20000 in
theorem inX6 : ∀ w ∈ wsX60, w ∈ lw_tbl := mem_r [303, 305, 307, 309, 311, 313, 315] rfl
set_option maxRecDepth 20000 in
theorem inX7 : ∀ w ∈ wsX70, w ∈ lw_tbl := mem_r [1016, 1018, 1020, 1022, 1024, 1026, 1028, 1030, 1032, 1034, 1036, 1038, 1040, 1042, 1044, 1046, 1048, 1050, 1052, 1054, 1056, 1058, 1060, 1062] rfl
theorem mem_app {a b big : List Cond} (ha : ∀ w ∈ a, w ∈ big) (hb : ∀ w ∈ b, w ∈ big) : ∀ w ∈ a ++ b, w ∈ big := fun w h => (List.mem_append.mp h).elim (ha w) (hb w)
theorem wsL_law_in : ∀ w ∈ wsL_law, w ∈ lw_tbl := mem_app (mem_app (mem_app (mem_app (mem_app (mem_app (mem_app (mem_app (mem_app (mem_app wsL_law_r1_in (mem_app wsL_law_r2_in (mem_app wsL_law_r3_in (mem_app wsL_law_r4_in (mem_app wsL_law_r5_in (mem_app wsL_law_r6_in (mem_app wsL_law_r7_in (mem_app wsL_law_r8_in (mem_app wsL_law_r9_in (mem_app wsL_law_r10_in (mem_app wsL_law_r11_in (mem_app wsL_law_r12_in (mem_app wsL_law_r13_in (mem_app wsL_law_r14_in (mem_app wsL_law_r15_in (mem_app wsL_law_r16_in (mem_app wsL_law_r17_in (mem_app wsL_law_r18_in (mem_app wsL_law_r19_in (mem_app wsL_law_r20_in (mem_app wsL_law_r21_in (mem_app wsL_law_r22_in (mem_app wsL_law_r23_in (mem_app wsL_law_r24_in (mem_app wsL_law_r25_in (mem_app wsL_law_r26_in (mem_app wsL_law_r27_in (mem_app wsL_law_r28_in (mem_app wsL_law_r29_in (mem_app wsL_law_r30_in (mem_app wsL_law_r31_in (mem_app wsL_law_r32_in (mem_app wsL_law_r33_in (mem_app wsL_law_r34_in (mem_app wsL_law_r35_in (mem_app wsL_law_r36_in (mem_app wsL_law_r37_in (mem_app wsL_law_r38_in (mem_app wsL_law_r39_in (mem_app wsL_law_r40_in (mem_app wsL_law_r41_in (mem_app wsL_law_r42_in (mem_app wsL_law_r43_in (mem_app wsL_law_r44_in (mem_app wsL_law_r45_in (mem_app wsL_law_r46_in (mem_app wsL_law_r47_in (mem_app wsL_law_r48_in (mem_app wsL_law_r49_in (mem_app wsL_law_r50_in (wsL_law_r51_in))))))))))))))))))))))))))))))))))))))))))))))))))) inX6) inX7) inX1) inX2) inX5) inX3) inX0) inX4) (fun _ h => absurd h List.not_mem_nil)
