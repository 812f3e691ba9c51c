/-! 95b4: more of them -/
set_option maxRecDepth 20000 in
theorem pk_X9_overlap_0 : GoodIn wsL_law ((wsX9_overlap.drop 0).take 24) := goodIn_c [(23, 0), (13, 7), (3, 1), (7, 13), (7, 14), (7, 15), (0, 5), (7, 16), (2, 23), (5, 18), (5, 19), (5, 20), (4, 5), (4, 6), (4, 7), (12, 8), (12, 9), (12, 10), (12, 19), (12, 20), (12, 21), (12, 22), (6, 1), (6, 2)] (by decide +kernel) (by decide +kernel)
set_option maxRecDepth 20000 in
theorem pk_X9_overlap_1 : GoodIn wsL_law ((wsX9_overlap.drop 24).take 24) := goodIn_c [(6, 3), (6, 4), (2, 22), (6, 5), (6, 6), (6, 7), (6, 8), (2, 21), (5, 21), (5, 22), (5, 23), (6, 0), (13, 3), (13, 4), (13, 5), (13, 6), (13, 8), (13, 9), (13, 10), (13, 15), (13, 16), (13, 17), (13, 18), (13, 19)] (by decide +kernel) (by decide +kernel)
set_option maxRecDepth 20000 in
theorem pk_X9_overlap_2 : GoodIn wsL_law (wsX9_overlap.drop 48) := goodIn_c [(13, 20), (13, 21), (13, 22), (14, 22), (14, 23), (15, 0), (15, 1), (15, 2), (3, 0), (30, 0), (30, 1), (30, 2), (30, 3), (30, 4), (30, 5), (30, 6), (30, 7), (30, 8), (30, 9), (30, 10), (30, 11), (30, 12), (30, 13)] (by decide +kernel) (by decide +kernel)
theorem ggL_law_X9_overlap : GoodIn wsL_law wsX9_overlap := (goodIn_tk 0 24 pk_X9_overlap_0 (goodIn_tk 24 24 pk_X9_overlap_1 pk_X9_overlap_2))
set_option maxRecDepth 20000 in
theorem gL_law_X9_overlap : GoodIn wsL_law (wsV RL 78 RX9 yX9_overlap wsX9_overlap) := goodIn_app (goodIn_c [(22, 21), (22, 22), (22, 23), (0, 5)] (by decide +kernel) (by decide +kernel)) ggL_law_X9_overlap
set_option maxRecDepth 20000 in
theorem pk_X8_pool_0 : GoodIn wsL_law ((wsX8_pool.drop 0).take 24) := goodIn_c [(23, 4), (3, 10), (3, 11), (3, 12), (0, 2), (3, 13), (0, 13), (9, 17), (9, 18), (9, 19), (23, 5), (23, 6), (23, 7), (1, 5), (23, 8), (2, 3), (23, 9), (23, 10), (23, 11), (23, 12), (2, 5), (23, 13), (22, 17), (22, 18)] (by decide +kernel) (by decide +kernel)
set_option maxRecDepth 20000 in
theorem pk_X8_pool_1 : GoodIn wsL_law (wsX8_pool.drop 24) := goodIn_c [(2, 7), (22, 19), (22, 20), (5, 1), (5, 2), (5, 3), (5, 4), (2, 15), (29, 0), (29, 1), (29, 2), (29, 3), (29, 4), (29, 5), (34, 0), (34, 1), (35, 0), (35, 1), (35, 2)] (by decide +kernel) (by decide +kernel)
theorem ggL_law_X8_pool : GoodIn wsL_law wsX8_pool := (goodIn_tk 0 24 pk_X8_pool_0 pk_X8_pool_1)
set_option maxRecDepth 20000 in
theorem gL_law_X8_pool : GoodIn wsL_law (wsV RL 79 RX8 yX8_pool wsX8_pool) := goodIn_app (goodIn_c [(23, 1), (23, 2), (23, 3), (0, 2)] (by decide +kernel) (by decide +kernel)) ggL_law_X8_pool
set_option maxRecDepth 20000 in
theorem pk_X9_pool_0 : GoodIn wsL_law ((wsX9_pool.drop 0).take 24) := goodIn_c [(23, 17), (2, 23), (4, 5), (4, 6), (0, 5), (4, 7), (12, 8), (12, 9), (12, 10), (5, 21), (5, 22), (5, 23), (6, 0), (6, 1), (6, 2), (6, 3), (6, 4), (2, 22), (6, 5), (6, 6), (6, 7), (6, 8), (2, 21), (12, 19)] (by decide +kernel) (by decide +kernel)
set_option maxRecDepth 20000 in
theorem pk_X9_pool_1 : GoodIn wsL_law (wsX9_pool.drop 24) := goodIn_c [(12, 20), (12, 21), (12, 22), (4, 8), (4, 9), (4, 10), (4, 11), (2, 20), (30, 0), (30, 1), (30, 2), (30, 3), (30, 4), (30, 5), (30, 6), (30, 7), (30, 8), (30, 9), (30, 10), (30, 11), (30, 12), (30, 13)] (by decide +kernel) (by decide +kernel)
theorem ggL_law_X9_pool : GoodIn wsL_law wsX9_pool := (goodIn_tk 0 24 pk_X9_pool_0 pk_X9_pool_1)
set_option maxRecDepth 20000 in
theorem gL_law_X9_pool : GoodIn wsL_law (wsV RL 82 RX9 yX9_pool wsX9_pool) := goodIn_app (goodIn_c [(23, 14), (23, 15), (23, 16), (0, 5)] (by decide +kernel) (by decide +kernel)) ggL_law_X9_pool
set_option maxRecDepth 20000 in
theorem pk_X8_laid_0 : GoodIn wsL_law ((wsX8_laid.drop 0).take 24) := goodIn_c [(23, 21), (1, 3), (7, 1), (7, 2), (7, 3), (0, 2), (7, 4), (4, 16), (4, 17), (4, 18), (4, 19), (3, 10), (3, 11), (3, 12), (3, 13), (0, 13), (4, 20), (4, 21), (4, 22), (1, 5), (4, 23), (2, 5), (7, 5), (7, 6)] (by decide +kernel) (by decide +kernel)
set_option maxRecDepth 20000 in
theorem pk_X8_laid_1 : GoodIn wsL_law ((wsX8_laid.drop 24).take 24) := goodIn_c [(7, 7), (2, 7), (7, 8), (5, 13), (23, 22), (23, 23), (24, 0), (1, 2), (24, 1), (24, 2), (24, 3), (24, 4), (24, 5), (24, 6), (24, 7), (24, 8), (24, 9), (24, 10), (24, 11), (24, 12), (24, 13), (5, 6), (5, 7), (5, 8)] (by decide +kernel) (by decide +kernel)
set_option maxRecDepth 20000 in
theorem pk_X8_laid_2 : GoodIn wsL_law ((wsX8_laid.drop 48).take 24) := goodIn_c [(5, 4), (24, 14), (7, 22), (7, 23), (8, 0), (2, 15), (24, 15), (24, 16), (24, 17), (24, 18), (24, 19), (24, 20), (24, 21), (24, 22), (24, 23), (25, 0), (1, 20), (1, 22), (25, 1), (25, 2), (25, 3), (25, 4), (25, 5), (25, 6)] (by decide +kernel) (by decide +kernel)
set_option maxRecDepth 20000 in
theorem pk_X8_laid_3 : GoodIn wsL_law (wsX8_laid.drop 72) := goodIn_c [(25, 7), (25, 8), (29, 0), (29, 1), (29, 2), (29, 3), (29, 4), (29, 5), (34, 0), (34, 1), (35, 0), (35, 1), (35, 2), (33, 0), (33, 1), (33, 2), (33, 3), (33, 4), (33, 5), (33, 6)] (by decide +kernel) (by decide +kernel)
theorem ggL_law_X8_laid : GoodIn wsL_law wsX8_laid := (goodIn_tk 0 24 pk_X8_laid_0 (goodIn_tk 24 24 pk_X8_laid_1 (goodIn_tk 48 24 pk_X8_laid_2 pk_X8_laid_3)))
set_option maxRecDepth 20000 in
theorem gL_law_X8_laid : GoodIn wsL_law (wsV RL 83 RX8 yX8_laid wsX8_laid) := goodIn_app (goodIn_c [(23, 18), (23, 19), (23, 20), (0, 2)] (by decide +kernel) (by decide +kernel)) ggL_law_X8_laid
set_option maxRecDepth 20000 in
theorem pk_X9_laid_0 : GoodIn wsL_law ((wsX9_laid.drop 0).take 24) := goodIn_c [(25, 12), (25, 13), (3, 4), (3, 5), (7, 13), (7, 14), (7, 15), (0, 5), (7, 16), (2, 23), (5, 18), (5, 19), (5, 20), (4, 5), (4, 6), (4, 7), (25, 14), (25, 15), (25, 16), (25, 17), (25, 18), (25, 19), (25, 20), (25, 21)] (by decide +kernel) (by decide +kernel)
set_option maxRecDepth 20000 in
theorem pk_X9_laid_1 : GoodIn wsL_law ((wsX9_laid.drop 24).take 24) := goodIn_c [(25, 22), (6, 1), (6, 2), (6, 3), (6, 4), (2, 22), (6, 5), (6, 6), (6, 7), (6, 8), (2, 21), (25, 23), (26, 0), (26, 1), (26, 2), (26, 3), (26, 4), (26, 5), (26, 6), (26, 7), (26, 8), (26, 9), (26, 10), (26, 11)] (by decide +kernel) (by decide +kernel)
set_option maxRecDepth 20000 in
theorem pk_X9_laid_2 : GoodIn wsL_law (wsX9_laid.drop 48) := goodIn_c [(26, 12), (30, 0), (30, 1), (30, 2), (30, 3), (30, 4), (30, 5), (30, 6), (30, 7), (30, 8), (30, 9), (30, 10), (30, 11), (30, 12), (30, 13)] (by decide +kernel) (by decide +kernel)
theorem ggL_law_X9_laid : GoodIn wsL_law wsX9_laid := (goodIn_tk 0 24 pk_X9_laid_0 (goodIn_tk 24 24 pk_X9_laid_1 pk_X9_laid_2))
set_option maxRecDepth 20000 in
theorem gL_law_X9_laid : GoodIn wsL_law (wsV RL 86 RX9 yX9_laid wsX9_laid) := goodIn_app (goodIn_c [(25, 9), (25, 10), (25, 11), (0, 5)] (by decide +kernel) (by decide +kernel)) ggL_law_X9_laid
set_option maxRecDepth 20000 in
theorem pk_X8_clicks_0 : GoodIn wsL_law ((wsX8_clicks.drop 0).take 24) := goodIn_c [(26, 16), (1, 3), (3, 10), (3, 11), (3, 12), (0, 2), (3, 13), (0, 13), (7, 1), (7, 2), (7, 3), (7, 4), (4, 16), (4, 17), (4, 18), (4, 19), (4, 20), (4, 21), (4, 22), (1, 5), (4, 23), (2, 5), (7, 5), (7, 6)] (by decide +kernel) (by decide +kernel)
set_option maxRecDepth 20000 in
theorem pk_X8_clicks_1 : GoodIn wsL_law ((wsX8_clicks.drop 24).take 24) := goodIn_c [(7, 7), (2, 7), (7, 8), (5, 13), (23, 22), (23, 23), (24, 0), (1, 2), (24, 1), (24, 2), (24, 3), (24, 4), (24, 5), (24, 6), (24, 7), (24, 8), (24, 9), (24, 10), (24, 11), (24, 12), (24, 13), (5, 6), (5, 7), (5, 8)] (by decide +kernel) (by decide +kernel)
set_option maxRecDepth 20000 in
theorem pk_X8_clicks_2 : GoodIn wsL_law ((wsX8_clicks.drop 48).take 24) := goodIn_c [(5, 4), (24, 14), (7, 22), (7, 23), (8, 0), (2, 15), (24, 15), (24, 16), (24, 17), (24, 18), (24, 19), (24, 20), (24, 21), (24, 22), (24, 23), (25, 0), (1, 20), (1, 22), (26, 17), (26, 18), (26, 19), (26, 20), (26, 21), (26, 22)] (by decide +kernel) (by decide +kernel)
set_option maxRecDepth 20000 in
theorem pk_X8_clicks_3 : GoodIn wsL_law ((wsX8_clicks.drop 72).take 24) := goodIn_c [(26, 23), (3, 18), (3, 19), (3, 20), (2, 3), (27, 0), (27, 1), (27, 2), (27, 3), (27, 4), (27, 5), (27, 6), (27, 7), (27, 8), (27, 9), (27, 10), (29, 0), (29, 1), (29, 2), (29, 3), (29, 4), (29, 5), (34, 0), (34, 1)] (by decide +kernel) (by decide +kernel)
set_option maxRecDepth 20000 in
theorem pk_X8_clicks_4 : GoodIn wsL_law (wsX8_clicks.drop 96) := goodIn_c [(35, 0), (35, 1), (35, 2), (33, 0), (33, 1), (33, 2), (33, 3), (33, 4), (33, 5), (33, 6)] (by decide +kernel) (by decide +kernel)
theorem ggL_law_X8_clicks : GoodIn wsL_law wsX8_clicks := (goodIn_tk 0 24 pk_X8_clicks_0 (goodIn_tk 24 24 pk_X8_clicks_1 (goodIn_tk 48 24 pk_X8_clicks_2 (goodIn_tk 72 24 pk_X8_clicks_3 pk_X8_clicks_4))))
set_option maxRecDepth 20000 in
theorem gL_law_X8_clicks : GoodIn wsL_law (wsV RL 87 RX8 yX8_clicks wsX8_clicks) := goodIn_app (goodIn_c [(26, 13), (26, 14), (26, 15), (0, 2)] (by decide +kernel) (by decide +kernel)) ggL_law_X8_clicks
set_option maxRecDepth 20000 in
theorem pk_X9_clicks_0 : GoodIn wsL_law ((wsX9_clicks.drop 0).take 24) := goodIn_c [(27, 14), (7, 13), (7, 14), (7, 15), (0, 5), (7, 16), (2, 23), (5, 18), (5, 19), (5, 20), (4, 5), (4, 6), (4, 7), (27, 15), (27, 16), (27, 17), (27, 18), (25, 13), (3, 4), (3, 5), (25, 14), (25, 15), (25, 16), (25, 17)] (by decide +kernel) (by decide +kernel)
set_option maxRecDepth 20000 in
theorem pk_X9_clicks_1 : GoodIn wsL_law ((wsX9_clicks.drop 24).take 24) := goodIn_c [(25, 18), (25, 19), (25, 20), (25, 21), (25, 22), (6, 1), (6, 2), (6, 3), (6, 4), (2, 22), (6, 5), (6, 6), (6, 7), (6, 8), (2, 21), (25, 23), (26, 0), (26, 1), (26, 2), (26, 3), (26, 4), (26, 5), (26, 6), (26, 7)] (by decide +kernel) (by decide +kernel)
set_option maxRecDepth 20000 in
theorem pk_X9_clicks_2 : GoodIn wsL_law (wsX9_clicks.drop 48) := goodIn_c [(26, 8), (26, 9), (26, 10), (26, 11), (26, 12), (4, 8), (4, 9), (4, 10), (4, 11), (2, 20), (30, 0), (30, 1), (30, 2), (30, 3), (30, 4), (30, 5), (30, 6), (30, 7), (30, 8), (30, 9), (30, 10), (30, 11), (30, 12), (30, 13)] (by decide +kernel) (by decide +kernel)
theorem ggL_law_X9_clicks : GoodIn wsL_law wsX9_clicks := (goodIn_tk 0 24 pk_X9_clicks_0 (goodIn_tk 24 24 pk_X9_clicks_1 pk_X9_clicks_2))
set_option maxRecDepth 20000 in
theorem gL_law_X9_clicks : GoodIn wsL_law (wsV RL 90 RX9 yX9_clicks wsX9_clicks) := goodIn_app (goodIn_c [(27, 11), (27, 12), (27, 13), (0, 5)] (by decide +kernel) (by decide +kernel)) ggL_law_X9_clicks
set_option maxRecDepth 20000 in
theorem pk_X8_prefer_0 : GoodIn wsL_law ((wsX8_prefer.drop 0).take 24) := goodIn_c [(27, 22), (1, 3), (3, 10), (3, 11), (3, 12), (0, 2), (3, 13), (0, 13), (7, 1), (7, 2), (7, 3), (7, 4), (4, 16), (4, 17), (4, 18), (4, 19), (4, 20), (4, 21), (4, 22), (1, 5), (4, 23), (2, 5), (7, 5), (7, 6)] (by decide +kernel) (by decide +kernel)
set_option maxRecDepth 20000 in
theorem pk_X8_prefer_1 : GoodIn wsL_law ((wsX8_prefer.drop 24).take 24) := goodIn_c [(7, 7), (2, 7), (7, 8), (5, 13), (23, 22), (23, 23), (24, 0), (1, 2), (24, 1), (24, 2), (24, 3), (24, 4), (24, 5), (24, 6), (24, 7), (24, 8), (24, 9), (24, 10), (24, 11), (24, 12), (24, 13), (5, 6), (5, 7), (5, 8)] (by decide +kernel) (by decide +kernel)
set_option maxRecDepth 20000 in
theorem pk_X8_prefer_2 : GoodIn wsL_law ((wsX8_prefer.drop 48).take 24) := goodIn_c [(5, 4), (24, 14), (7, 22), (7, 23), (8, 0), (2, 15), (24, 15), (24, 16), (24, 17), (24, 18), (24, 19), (24, 20), (24, 21), (24, 22), (24, 23), (25, 0), (1, 20), (1, 22), (26, 17), (26, 18), (26, 19), (26, 20), (26, 21), (26, 22)] (by decide +kernel) (by decide +kernel)
set_option maxRecDepth 20000 in
theorem pk_X8_prefer_3 : GoodIn wsL_law ((wsX8_prefer.drop 72).take 24) := goodIn_c [(26, 23), (3, 18), (3, 19), (3, 20), (2, 3), (27, 0), (27, 1), (27, 2), (27, 3), (27, 4), (27, 5), (27, 6), (27, 7), (27, 8), (27, 9), (27, 10), (29, 0), (29, 1), (29, 2), (29, 3), (29, 4), (29, 5), (34, 0), (34, 1)] (by decide +kernel) (by decide +kernel)
set_option maxRecDepth 20000 in
theorem pk_X8_prefer_4 : GoodIn wsL_law (wsX8_prefer.drop 96) := goodIn_c [(35, 0), (35, 1), (35, 2), (33, 0), (33, 1), (33, 2), (33, 3), (33, 4), (33, 5), (33, 6)] (by decide +kernel) (by decide +kernel)
theorem ggL_law_X8_prefer : GoodIn wsL_law wsX8_prefer := (goodIn_tk 0 24 pk_X8_prefer_0 (goodIn_tk 24 24 pk_X8_prefer_1 (goodIn_tk 48 24 pk_X8_prefer_2 (goodIn_tk 72 24 pk_X8_prefer_3 pk_X8_prefer_4))))
set_option maxRecDepth 20000 in
theorem gL_law_X8_prefer : GoodIn wsL_law (wsV RL 91 RX8 yX8_prefer wsX8_prefer) := goodIn_app (goodIn_c [(27, 19), (27, 20), (27, 21), (0, 2)] (by decide +kernel) (by decide +kernel)) ggL_law_X8_prefer
set_option maxRecDepth 20000 in
theorem pk_X9_prefer_0 : GoodIn wsL_law ((wsX9_prefer.drop 0).take 24) := goodIn_c [(28, 2), (7, 13), (7, 14), (7, 15), (0, 5), (7, 16), (2, 23), (5, 18), (5, 19), (5, 20), (4, 5), (4, 6), (4, 7), (27, 15), (27, 16), (27, 17), (27, 18), (25, 13), (3, 4), (3, 5), (25, 14), (25, 15), (25, 16), (25, 17)] (by decide +kernel) (by decide +kernel)
set_option maxRecDepth 20000 in
theorem pk_X9_prefer_1 : GoodIn wsL_law ((wsX9_prefer.drop 24).take 24) := goodIn_c [(25, 18), (25, 19), (25, 20), (25, 21), (25, 22), (6, 1), (6, 2), (6, 3), (6, 4), (2, 22), (6, 5), (6, 6), (6, 7), (6, 8), (2, 21), (25, 23), (26, 0), (26, 1), (26, 2), (26, 3), (26, 4), (26, 5), (26, 6), (26, 7)] (by decide +kernel) (by decide +kernel)
set_option maxRecDepth 20000 in
theorem pk_X9_prefer_2 : GoodIn wsL_law (wsX9_prefer.drop 48) := goodIn_c [(26, 8), (26, 9), (26, 10), (26, 11), (26, 12), (4, 8), (4, 9), (4, 10), (4, 11), (2, 20), (30, 0), (30, 1), (30, 2), (30, 3), (30, 4), (30, 5), (30, 6), (30, 7), (30, 8), (30, 9), (30, 10), (30, 11), (30, 12), (30, 13)] (by decide +kernel) (by decide +kernel)
theorem ggL_law_X9_prefer : GoodIn wsL_law wsX9_prefer := (goodIn_tk 0 24 pk_X9_prefer_0 (goodIn_tk 24 24 pk_X9_prefer_1 pk_X9_prefer_2))
set_option maxRecDepth 20000 in
theorem gL_law_X9_prefer : GoodIn wsL_law (wsV RL 94 RX9 yX9_prefer wsX9_prefer) := goodIn_app (goodIn_c [(27, 23), (28, 0), (28, 1), (0, 5)] (by decide +kernel) (by decide +kernel)) ggL_law_X9_prefer
