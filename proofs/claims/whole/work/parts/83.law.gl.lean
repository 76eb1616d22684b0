set_option maxRecDepth 20000 in
theorem ggL_law_X6_count : GoodIn wsL_law wsX6_count := goodIn_k lw_lists lw_lists_in _ [(50, 1), (0, 16), (1, 0), (13, 14), (5, 10), (5, 11), (1, 15), (5, 12), (2, 6), (5, 13), (4, 8), (4, 9), (4, 10), (0, 2), (4, 11), (1, 6), (4, 12), (51, 0), (51, 1), (51, 2), (51, 3), (51, 4), (51, 5), (51, 6), (53, 0), (53, 1), (53, 2), (53, 3), (53, 4), (53, 5), (53, 6), (53, 7), (53, 8), (57, 0), (57, 1), (57, 2), (57, 3), (57, 4), (57, 5), (57, 6), (57, 7), (57, 8), (57, 9), (58, 0), (58, 1), (58, 2), (58, 3), (58, 4), (58, 5), (55, 0), (55, 1), (55, 2), (55, 3), (55, 4), (55, 5)] rfl (by decide +kernel)
set_option maxRecDepth 20000 in
theorem gL_law_X6_count : GoodIn wsL_law (wsV RL 193 RX6 yX6_count wsX6_count) := goodIn_app (goodIn_k lw_lists lw_lists_in _ [(49, 22), (49, 23), (50, 0), (0, 2)] rfl (by decide +kernel)) ggL_law_X6_count
set_option maxRecDepth 20000 in
theorem ggL_law_X7_count : GoodIn wsL_law wsX7_count := goodIn_k lw_lists lw_lists_in _ [(50, 5), (3, 13), (43, 11), (10, 2), (10, 3), (10, 4), (0, 5), (10, 5), (10, 6), (10, 7), (10, 8), (10, 9), (4, 20), (4, 21), (4, 22), (4, 23), (3, 15), (5, 0), (52, 0), (52, 1), (52, 2), (52, 3), (52, 4), (52, 5), (52, 6), (52, 7), (52, 8), (52, 9), (52, 10), (52, 11), (52, 12), (52, 13), (52, 14), (52, 15), (52, 16), (52, 17), (52, 18), (52, 19), (52, 20), (52, 21), (52, 22), (52, 23)] rfl (by decide +kernel)
set_option maxRecDepth 20000 in
theorem gL_law_X7_count : GoodIn wsL_law (wsV RL 196 RX7 yX7_count wsX7_count) := goodIn_app (goodIn_k lw_lists lw_lists_in _ [(50, 2), (50, 3), (50, 4), (0, 5)] rfl (by decide +kernel)) ggL_law_X7_count
set_option maxRecDepth 20000 in
theorem ggL_law_X6_told : GoodIn wsL_law wsX6_told := goodIn_k lw_lists lw_lists_in _ [(50, 9), (1, 6), (4, 8), (4, 9), (4, 10), (0, 2), (4, 11), (4, 12), (51, 0), (51, 1), (51, 2), (51, 3), (51, 4), (51, 5), (51, 6)] rfl (by decide +kernel)
set_option maxRecDepth 20000 in
theorem gL_law_X6_told : GoodIn wsL_law (wsV RL 197 RX6 yX6_told wsX6_told) := goodIn_app (goodIn_k lw_lists lw_lists_in _ [(50, 6), (50, 7), (50, 8), (0, 2)] rfl (by decide +kernel)) ggL_law_X6_told
set_option maxRecDepth 20000 in
theorem ggL_law_X7_told : GoodIn wsL_law wsX7_told := goodIn_k lw_lists lw_lists_in _ [(50, 13), (3, 15), (4, 17), (4, 18), (0, 5), (4, 19), (4, 20), (4, 21), (4, 22), (4, 23), (5, 0), (52, 0), (52, 1), (52, 2), (52, 3), (52, 4), (52, 5), (52, 6), (52, 7), (52, 8), (52, 9), (52, 10), (52, 11), (52, 12), (52, 13), (52, 14), (52, 15), (52, 16), (52, 17), (52, 18), (52, 19), (52, 20), (52, 21), (52, 22), (52, 23)] rfl (by decide +kernel)
set_option maxRecDepth 20000 in
theorem gL_law_X7_told : GoodIn wsL_law (wsV RL 200 RX7 yX7_told wsX7_told) := goodIn_app (goodIn_k lw_lists lw_lists_in _ [(50, 10), (50, 11), (50, 12), (0, 5)] rfl (by decide +kernel)) ggL_law_X7_told
