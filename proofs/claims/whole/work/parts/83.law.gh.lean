set_option maxRecDepth 20000 in
theorem ggL_law_X6_score : GoodIn wsL_law wsX6_score := goodIn_k lw_lists lw_lists_in _ [(38, 21), (0, 16), (17, 6), (17, 7), (17, 8), (0, 2), (17, 9), (4, 8), (4, 9), (4, 10), (4, 11), (1, 6), (4, 12), (51, 0), (51, 1), (51, 2), (51, 3), (51, 4), (51, 5), (51, 6), (53, 0), (53, 1), (53, 2), (53, 3), (53, 4), (53, 5), (53, 6), (53, 7), (53, 8), (57, 0), (57, 1), (57, 2), (57, 3), (57, 4), (57, 5), (57, 6), (57, 7), (57, 8), (57, 9)] rfl (by decide +kernel)
set_option maxRecDepth 20000 in
theorem gL_law_X6_score : GoodIn wsL_law (wsV RL 128 RX6 yX6_score wsX6_score) := goodIn_app (goodIn_k lw_lists lw_lists_in _ [(38, 18), (38, 19), (38, 20), (0, 2)] rfl (by decide +kernel)) ggL_law_X6_score
set_option maxRecDepth 20000 in
theorem ggL_law_X7_score : GoodIn wsL_law wsX7_score := goodIn_k lw_lists lw_lists_in _ [(39, 1), (3, 13), (17, 14), (17, 15), (17, 16), (0, 5), (17, 17), (4, 17), (4, 18), (4, 19), (4, 20), (4, 21), (4, 22), (4, 23), (3, 15), (5, 0), (10, 22), (10, 23), (11, 0), (11, 1), (52, 0), (52, 1), (52, 2), (52, 3), (52, 4), (52, 5), (52, 6), (52, 7), (52, 8), (52, 9), (52, 10), (52, 11), (52, 12), (52, 13), (52, 14), (52, 15), (52, 16), (52, 17), (52, 18), (52, 19), (52, 20), (52, 21), (52, 22), (52, 23)] rfl (by decide +kernel)
set_option maxRecDepth 20000 in
theorem gL_law_X7_score : GoodIn wsL_law (wsV RL 131 RX7 yX7_score wsX7_score) := goodIn_app (goodIn_k lw_lists lw_lists_in _ [(38, 22), (38, 23), (39, 0), (0, 5)] rfl (by decide +kernel)) ggL_law_X7_score
set_option maxRecDepth 20000 in
theorem ggL_law_X6_line : GoodIn wsL_law wsX6_line := goodIn_k lw_lists lw_lists_in _ [(39, 5), (0, 16), (4, 8), (4, 9), (4, 10), (0, 2), (4, 11), (1, 6), (4, 12), (39, 6), (39, 7), (39, 8), (1, 15), (39, 9), (39, 10), (39, 11), (39, 12), (39, 13), (5, 13), (2, 5), (2, 0), (6, 13), (6, 14), (6, 15), (39, 14), (51, 0), (51, 1), (51, 2), (51, 3), (51, 4), (51, 5), (51, 6), (53, 0), (53, 1), (53, 2), (53, 3), (53, 4), (53, 5), (53, 6), (53, 7), (53, 8), (57, 0), (57, 1), (57, 2), (57, 3), (57, 4), (57, 5), (57, 6), (57, 7), (57, 8), (57, 9)] rfl (by decide +kernel)
set_option maxRecDepth 20000 in
theorem gL_law_X6_line : GoodIn wsL_law (wsV RL 132 RX6 yX6_line wsX6_line) := goodIn_app (goodIn_k lw_lists lw_lists_in _ [(39, 2), (39, 3), (39, 4), (0, 2)] rfl (by decide +kernel)) ggL_law_X6_line
set_option maxRecDepth 20000 in
theorem ggL_law_X7_line : GoodIn wsL_law wsX7_line := goodIn_k lw_lists lw_lists_in _ [(39, 18), (4, 17), (4, 18), (0, 5), (4, 19), (4, 20), (4, 21), (4, 22), (4, 23), (3, 15), (5, 0), (39, 19), (39, 20), (39, 21), (39, 22), (3, 13), (10, 22), (10, 23), (11, 0), (11, 1), (52, 0), (52, 1), (52, 2), (52, 3), (52, 4), (52, 5), (52, 6), (52, 7), (52, 8), (52, 9), (52, 10), (52, 11), (52, 12), (52, 13), (52, 14), (52, 15), (52, 16), (52, 17), (52, 18), (52, 19), (52, 20), (52, 21), (52, 22), (52, 23)] rfl (by decide +kernel)
set_option maxRecDepth 20000 in
theorem gL_law_X7_line : GoodIn wsL_law (wsV RL 135 RX7 yX7_line wsX7_line) := goodIn_app (goodIn_k lw_lists lw_lists_in _ [(39, 15), (39, 16), (39, 17), (0, 5)] rfl (by decide +kernel)) ggL_law_X7_line
set_option maxRecDepth 20000 in
theorem ggL_law_X6_worth : GoodIn wsL_law wsX6_worth := goodIn_k lw_lists lw_lists_in _ [(40, 2), (0, 16), (40, 3), (5, 16), (0, 2), (5, 17), (4, 8), (4, 9), (4, 10), (4, 11), (1, 6), (4, 12), (51, 0), (51, 1), (51, 2), (51, 3), (51, 4), (51, 5), (51, 6), (53, 0), (53, 1), (53, 2), (53, 3), (53, 4), (53, 5), (53, 6), (53, 7), (53, 8)] rfl (by decide +kernel)
set_option maxRecDepth 20000 in
theorem gL_law_X6_worth : GoodIn wsL_law (wsV RL 136 RX6 yX6_worth wsX6_worth) := goodIn_app (goodIn_k lw_lists lw_lists_in _ [(39, 23), (40, 0), (40, 1), (0, 2)] rfl (by decide +kernel)) ggL_law_X6_worth
set_option maxRecDepth 20000 in
theorem ggL_law_X7_worth : GoodIn wsL_law wsX7_worth := goodIn_k lw_lists lw_lists_in _ [(40, 7), (3, 13), (4, 17), (4, 18), (0, 5), (4, 19), (4, 20), (4, 21), (4, 22), (4, 23), (3, 15), (5, 0), (52, 0), (52, 1), (52, 2), (52, 3), (52, 4), (52, 5), (52, 6), (52, 7), (52, 8), (52, 9), (52, 10), (52, 11), (52, 12), (52, 13), (52, 14), (52, 15), (52, 16), (52, 17), (52, 18), (52, 19), (52, 20), (52, 21), (52, 22), (52, 23)] rfl (by decide +kernel)
set_option maxRecDepth 20000 in
theorem gL_law_X7_worth : GoodIn wsL_law (wsV RL 139 RX7 yX7_worth wsX7_worth) := goodIn_app (goodIn_k lw_lists lw_lists_in _ [(40, 4), (40, 5), (40, 6), (0, 5)] rfl (by decide +kernel)) ggL_law_X7_worth
set_option maxRecDepth 20000 in
theorem ggL_law_X6_value : GoodIn wsL_law wsX6_value := goodIn_k lw_lists lw_lists_in _ [(40, 11), (0, 16), (14, 13), (14, 14), (14, 15), (0, 2), (14, 16), (4, 8), (4, 9), (4, 10), (4, 11), (1, 6), (4, 12), (40, 12), (40, 13), (40, 14), (0, 15), (40, 15), (1, 16), (1, 12), (13, 20), (8, 23), (9, 0), (1, 15), (9, 1), (2, 7), (51, 0), (51, 1), (51, 2), (51, 3), (51, 4), (51, 5), (51, 6), (53, 0), (53, 1), (53, 2), (53, 3), (53, 4), (53, 5), (53, 6), (53, 7), (53, 8), (57, 0), (57, 1), (57, 2), (57, 3), (57, 4), (57, 5), (57, 6), (57, 7), (57, 8), (57, 9)] rfl (by decide +kernel)
set_option maxRecDepth 20000 in
theorem gL_law_X6_value : GoodIn wsL_law (wsV RL 140 RX6 yX6_value wsX6_value) := goodIn_app (goodIn_k lw_lists lw_lists_in _ [(40, 8), (40, 9), (40, 10), (0, 2)] rfl (by decide +kernel)) ggL_law_X6_value
set_option maxRecDepth 20000 in
theorem ggL_law_X7_value : GoodIn wsL_law wsX7_value := goodIn_k lw_lists lw_lists_in _ [(40, 19), (14, 22), (14, 23), (15, 0), (0, 5), (15, 1), (3, 13), (4, 17), (4, 18), (4, 19), (40, 20), (40, 21), (40, 22), (40, 23), (10, 6), (10, 7), (10, 8), (10, 9), (12, 5), (12, 6), (12, 7), (12, 8), (4, 20), (4, 21), (4, 22), (4, 23), (3, 15), (5, 0), (52, 0), (52, 1), (52, 2), (52, 3), (52, 4), (52, 5), (52, 6), (52, 7), (52, 8), (52, 9), (52, 10), (52, 11), (52, 12), (52, 13), (52, 14), (52, 15), (52, 16), (52, 17), (52, 18), (52, 19), (52, 20), (52, 21), (52, 22), (52, 23)] rfl (by decide +kernel)
set_option maxRecDepth 20000 in
theorem gL_law_X7_value : GoodIn wsL_law (wsV RL 143 RX7 yX7_value wsX7_value) := goodIn_app (goodIn_k lw_lists lw_lists_in _ [(40, 16), (40, 17), (40, 18), (0, 5)] rfl (by decide +kernel)) ggL_law_X7_value
