/-! 95b2: more of them -/
set_option maxRecDepth 20000 in
theorem pk_X9_measure_0 : GoodIn wsL_law ((wsX9_measure.drop 0).take 24) := goodIn_c [(12, 7), (7, 13), (7, 14), (7, 15), (0, 5), (7, 16), (2, 23), (5, 18), (5, 19), (5, 20), (4, 5), (4, 6), (4, 7), (12, 8), (12, 9), (12, 10), (12, 11), (12, 12), (12, 13), (12, 14), (12, 15), (12, 16), (12, 17), (12, 18)] (by decide +kernel) (by decide +kernel)
set_option maxRecDepth 20000 in
theorem pk_X9_measure_1 : GoodIn wsL_law ((wsX9_measure.drop 24).take 24) := goodIn_c [(12, 19), (12, 20), (12, 21), (12, 22), (6, 1), (6, 2), (6, 3), (6, 4), (2, 22), (6, 5), (6, 6), (6, 7), (6, 8), (2, 21), (12, 23), (13, 0), (13, 1), (13, 2), (4, 8), (4, 9), (4, 10), (4, 11), (2, 20), (13, 3)] (by decide +kernel) (by decide +kernel)
set_option maxRecDepth 20000 in
theorem pk_X9_measure_2 : GoodIn wsL_law ((wsX9_measure.drop 48).take 24) := goodIn_c [(13, 4), (13, 5), (13, 6), (13, 7), (3, 1), (13, 8), (13, 9), (13, 10), (9, 2), (9, 3), (9, 4), (9, 5), (9, 6), (9, 7), (9, 8), (9, 9), (13, 11), (13, 12), (13, 13), (13, 14), (13, 15), (13, 16), (13, 17), (13, 18)] (by decide +kernel) (by decide +kernel)
set_option maxRecDepth 20000 in
theorem pk_X9_measure_3 : GoodIn wsL_law ((wsX9_measure.drop 72).take 24) := goodIn_c [(13, 19), (13, 20), (13, 21), (13, 22), (13, 23), (14, 0), (14, 1), (14, 2), (14, 3), (14, 4), (14, 5), (14, 6), (14, 7), (14, 8), (14, 9), (14, 10), (14, 11), (14, 12), (14, 13), (14, 14), (14, 15), (14, 16), (14, 17), (14, 18)] (by decide +kernel) (by decide +kernel)
set_option maxRecDepth 20000 in
theorem pk_X9_measure_4 : GoodIn wsL_law (wsX9_measure.drop 96) := goodIn_c [(14, 19), (14, 20), (14, 21), (14, 22), (14, 23), (15, 0), (15, 1), (15, 2), (3, 0), (30, 0), (30, 1), (30, 2), (30, 3), (30, 4), (30, 5), (30, 6), (30, 7), (30, 8), (30, 9), (30, 10), (30, 11), (30, 12), (30, 13)] (by decide +kernel) (by decide +kernel)
theorem ggL_law_X9_measure : GoodIn wsL_law wsX9_measure := (goodIn_tk 0 24 pk_X9_measure_0 (goodIn_tk 24 24 pk_X9_measure_1 (goodIn_tk 48 24 pk_X9_measure_2 (goodIn_tk 72 24 pk_X9_measure_3 pk_X9_measure_4))))
set_option maxRecDepth 20000 in
theorem gL_law_X9_measure : GoodIn wsL_law (wsV RL 43 RX9 yX9_measure wsX9_measure) := goodIn_app (goodIn_c [(12, 4), (12, 5), (12, 6), (0, 5)] (by decide +kernel) (by decide +kernel)) ggL_law_X9_measure
set_option maxRecDepth 20000 in
theorem pk_X8_top_0 : GoodIn wsL_law (wsX8_top.drop 0) := goodIn_c [(15, 6), (0, 17), (15, 7), (15, 8), (15, 9), (0, 16), (15, 10), (10, 18), (29, 0), (29, 1), (29, 2), (29, 3), (29, 4), (29, 5), (31, 0), (31, 1)] (by decide +kernel) (by decide +kernel)
theorem ggL_law_X8_top : GoodIn wsL_law wsX8_top := pk_X8_top_0
set_option maxRecDepth 20000 in
theorem gL_law_X8_top : GoodIn wsL_law (wsV RL 44 RX8 yX8_top wsX8_top) := goodIn_app (goodIn_c [(15, 3), (15, 4), (15, 5), (0, 2)] (by decide +kernel) (by decide +kernel)) ggL_law_X8_top
set_option maxRecDepth 20000 in
theorem pk_X9_top_0 : GoodIn wsL_law (wsX9_top.drop 0) := goodIn_c [(15, 14), (15, 2), (30, 0), (30, 1), (30, 2), (30, 3), (30, 4), (30, 5), (30, 6), (30, 7), (30, 8), (30, 9), (30, 10), (30, 11), (30, 12), (30, 13)] (by decide +kernel) (by decide +kernel)
theorem ggL_law_X9_top : GoodIn wsL_law wsX9_top := pk_X9_top_0
set_option maxRecDepth 20000 in
theorem gL_law_X9_top : GoodIn wsL_law (wsV RL 48 RX9 yX9_top wsX9_top) := goodIn_app (goodIn_c [(15, 11), (15, 12), (15, 13), (0, 5)] (by decide +kernel) (by decide +kernel)) ggL_law_X9_top
set_option maxRecDepth 20000 in
theorem pk_X8_bottom_0 : GoodIn wsL_law (wsX8_bottom.drop 0) := goodIn_c [(15, 18), (0, 17), (15, 19), (15, 20), (15, 21), (0, 16), (15, 22), (1, 9), (29, 0), (29, 1), (29, 2), (29, 3), (29, 4), (29, 5), (31, 0), (31, 1)] (by decide +kernel) (by decide +kernel)
theorem ggL_law_X8_bottom : GoodIn wsL_law wsX8_bottom := pk_X8_bottom_0
set_option maxRecDepth 20000 in
theorem gL_law_X8_bottom : GoodIn wsL_law (wsV RL 49 RX8 yX8_bottom wsX8_bottom) := goodIn_app (goodIn_c [(15, 15), (15, 16), (15, 17), (0, 2)] (by decide +kernel) (by decide +kernel)) ggL_law_X8_bottom
set_option maxRecDepth 20000 in
theorem pk_X9_bottom_0 : GoodIn wsL_law (wsX9_bottom.drop 0) := goodIn_c [(16, 2), (3, 0), (30, 0), (30, 1), (30, 2), (30, 3), (30, 4), (30, 5), (30, 6), (30, 7), (30, 8), (30, 9), (30, 10), (30, 11), (30, 12), (30, 13)] (by decide +kernel) (by decide +kernel)
theorem ggL_law_X9_bottom : GoodIn wsL_law wsX9_bottom := pk_X9_bottom_0
set_option maxRecDepth 20000 in
theorem gL_law_X9_bottom : GoodIn wsL_law (wsV RL 52 RX9 yX9_bottom wsX9_bottom) := goodIn_app (goodIn_c [(15, 23), (16, 0), (16, 1), (0, 5)] (by decide +kernel) (by decide +kernel)) ggL_law_X9_bottom
set_option maxRecDepth 20000 in
theorem pk_X8_gain_0 : GoodIn wsL_law ((wsX8_gain.drop 0).take 24) := goodIn_c [(16, 6), (16, 7), (16, 8), (3, 10), (3, 11), (3, 12), (0, 2), (3, 13), (0, 13), (7, 1), (7, 2), (7, 3), (7, 4), (4, 16), (4, 17), (4, 18), (4, 19), (4, 20), (4, 21), (4, 22), (1, 5), (4, 23), (2, 5), (7, 5)] (by decide +kernel) (by decide +kernel)
set_option maxRecDepth 20000 in
theorem pk_X8_gain_1 : GoodIn wsL_law ((wsX8_gain.drop 24).take 24) := goodIn_c [(7, 6), (7, 7), (2, 7), (7, 8), (5, 13), (9, 17), (9, 18), (9, 19), (16, 9), (16, 10), (16, 11), (16, 12), (16, 13), (7, 22), (7, 23), (8, 0), (5, 4), (2, 15), (16, 14), (3, 18), (3, 19), (3, 20), (2, 3), (16, 15)] (by decide +kernel) (by decide +kernel)
set_option maxRecDepth 20000 in
theorem pk_X8_gain_2 : GoodIn wsL_law (wsX8_gain.drop 48) := goodIn_c [(11, 15), (9, 22), (11, 16), (16, 16), (16, 17), (16, 18), (16, 19), (16, 20), (16, 21), (16, 22), (16, 23), (17, 0), (29, 0), (29, 1), (29, 2), (29, 3), (29, 4), (29, 5), (34, 0), (34, 1), (35, 0), (35, 1), (35, 2)] (by decide +kernel) (by decide +kernel)
theorem ggL_law_X8_gain : GoodIn wsL_law wsX8_gain := (goodIn_tk 0 24 pk_X8_gain_0 (goodIn_tk 24 24 pk_X8_gain_1 pk_X8_gain_2))
set_option maxRecDepth 20000 in
theorem gL_law_X8_gain : GoodIn wsL_law (wsV RL 53 RX8 yX8_gain wsX8_gain) := goodIn_app (goodIn_c [(16, 3), (16, 4), (16, 5), (0, 2)] (by decide +kernel) (by decide +kernel)) ggL_law_X8_gain
set_option maxRecDepth 20000 in
theorem pk_X9_gain_0 : GoodIn wsL_law ((wsX9_gain.drop 0).take 24) := goodIn_c [(17, 4), (17, 5), (17, 6), (7, 13), (7, 14), (7, 15), (0, 5), (7, 16), (2, 23), (5, 18), (5, 19), (5, 20), (4, 5), (4, 6), (4, 7), (12, 8), (12, 9), (12, 10), (12, 19), (12, 20), (12, 21), (12, 22), (6, 1), (6, 2)] (by decide +kernel) (by decide +kernel)
set_option maxRecDepth 20000 in
theorem pk_X9_gain_1 : GoodIn wsL_law ((wsX9_gain.drop 24).take 24) := goodIn_c [(6, 3), (6, 4), (2, 22), (6, 5), (6, 6), (6, 7), (6, 8), (2, 21), (12, 23), (13, 0), (13, 1), (13, 2), (4, 8), (4, 9), (4, 10), (4, 11), (2, 20), (14, 7), (14, 8), (14, 9), (17, 7), (17, 8), (17, 9), (17, 10)] (by decide +kernel) (by decide +kernel)
set_option maxRecDepth 20000 in
theorem pk_X9_gain_2 : GoodIn wsL_law (wsX9_gain.drop 48) := goodIn_c [(30, 0), (30, 1), (30, 2), (30, 3), (30, 4), (30, 5), (30, 6), (30, 7), (30, 8), (30, 9), (30, 10), (30, 11), (30, 12), (30, 13)] (by decide +kernel) (by decide +kernel)
theorem ggL_law_X9_gain : GoodIn wsL_law wsX9_gain := (goodIn_tk 0 24 pk_X9_gain_0 (goodIn_tk 24 24 pk_X9_gain_1 pk_X9_gain_2))
set_option maxRecDepth 20000 in
theorem gL_law_X9_gain : GoodIn wsL_law (wsV RL 57 RX9 yX9_gain wsX9_gain) := goodIn_app (goodIn_c [(17, 1), (17, 2), (17, 3), (0, 5)] (by decide +kernel) (by decide +kernel)) ggL_law_X9_gain
set_option maxRecDepth 20000 in
theorem pk_X8_mean_0 : GoodIn wsL_law ((wsX8_mean.drop 0).take 24) := goodIn_c [(17, 14), (0, 17), (0, 19), (17, 15), (17, 16), (0, 2), (17, 17), (17, 18), (17, 19), (17, 20), (9, 14), (9, 15), (9, 16), (9, 17), (9, 18), (9, 19), (17, 21), (17, 22), (17, 23), (18, 0), (0, 18), (18, 1), (10, 15), (10, 16)] (by decide +kernel) (by decide +kernel)
set_option maxRecDepth 20000 in
theorem pk_X8_mean_1 : GoodIn wsL_law ((wsX8_mean.drop 24).take 24) := goodIn_c [(0, 16), (10, 17), (10, 18), (1, 9), (10, 19), (10, 20), (10, 21), (10, 22), (10, 3), (10, 23), (11, 0), (11, 1), (11, 2), (3, 10), (3, 11), (3, 12), (3, 13), (0, 13), (18, 2), (18, 3), (18, 4), (18, 5), (8, 9), (8, 10)] (by decide +kernel) (by decide +kernel)
set_option maxRecDepth 20000 in
theorem pk_X8_mean_2 : GoodIn wsL_law ((wsX8_mean.drop 48).take 24) := goodIn_c [(8, 11), (1, 5), (8, 12), (2, 3), (7, 1), (7, 2), (7, 3), (7, 4), (4, 16), (4, 17), (4, 18), (4, 19), (4, 20), (4, 21), (4, 22), (4, 23), (2, 5), (7, 5), (7, 6), (7, 7), (2, 7), (7, 8), (5, 13), (9, 20)] (by decide +kernel) (by decide +kernel)
set_option maxRecDepth 20000 in
theorem pk_X8_mean_3 : GoodIn wsL_law ((wsX8_mean.drop 72).take 24) := goodIn_c [(9, 21), (9, 22), (9, 23), (10, 0), (10, 1), (10, 2), (10, 4), (10, 5), (10, 6), (10, 7), (10, 8), (7, 22), (7, 23), (8, 0), (5, 4), (2, 15), (10, 9), (10, 10), (10, 11), (10, 12), (10, 13), (3, 18), (3, 19), (3, 20)] (by decide +kernel) (by decide +kernel)
set_option maxRecDepth 20000 in
theorem pk_X8_mean_4 : GoodIn wsL_law ((wsX8_mean.drop 96).take 24) := goodIn_c [(10, 14), (11, 3), (11, 4), (11, 5), (11, 6), (11, 7), (11, 8), (11, 9), (11, 10), (11, 11), (11, 12), (11, 13), (11, 14), (11, 15), (11, 16), (11, 17), (11, 18), (11, 19), (11, 20), (8, 14), (8, 15), (8, 16), (11, 21), (11, 22)] (by decide +kernel) (by decide +kernel)
set_option maxRecDepth 20000 in
theorem pk_X8_mean_5 : GoodIn wsL_law ((wsX8_mean.drop 120).take 24) := goodIn_c [(11, 23), (12, 0), (5, 6), (5, 7), (5, 8), (12, 1), (12, 2), (12, 3), (18, 6), (18, 7), (18, 8), (18, 9), (18, 10), (18, 11), (18, 12), (18, 13), (15, 7), (15, 8), (15, 9), (15, 10), (15, 19), (15, 20), (15, 21), (15, 22)] (by decide +kernel) (by decide +kernel)
set_option maxRecDepth 20000 in
theorem pk_X8_mean_6 : GoodIn wsL_law (wsX8_mean.drop 144) := goodIn_c [(29, 0), (29, 1), (29, 2), (29, 3), (29, 4), (29, 5), (31, 0), (31, 1), (34, 0), (34, 1), (35, 0), (35, 1), (35, 2)] (by decide +kernel) (by decide +kernel)
theorem ggL_law_X8_mean : GoodIn wsL_law wsX8_mean := (goodIn_tk 0 24 pk_X8_mean_0 (goodIn_tk 24 24 pk_X8_mean_1 (goodIn_tk 48 24 pk_X8_mean_2 (goodIn_tk 72 24 pk_X8_mean_3 (goodIn_tk 96 24 pk_X8_mean_4 (goodIn_tk 120 24 pk_X8_mean_5 pk_X8_mean_6))))))
set_option maxRecDepth 20000 in
theorem gL_law_X8_mean : GoodIn wsL_law (wsV RL 58 RX8 yX8_mean wsX8_mean) := goodIn_app (goodIn_c [(17, 11), (17, 12), (17, 13), (0, 2)] (by decide +kernel) (by decide +kernel)) ggL_law_X8_mean
set_option maxRecDepth 20000 in
theorem pk_X9_mean_0 : GoodIn wsL_law ((wsX9_mean.drop 0).take 24) := goodIn_c [(18, 17), (13, 7), (3, 1), (5, 18), (5, 19), (0, 5), (5, 20), (18, 18), (18, 19), (18, 20), (18, 21), (12, 8), (12, 9), (12, 10), (18, 22), (18, 23), (19, 0), (19, 1), (2, 23), (9, 2), (9, 3), (9, 4), (9, 5), (9, 6)] (by decide +kernel) (by decide +kernel)
set_option maxRecDepth 20000 in
theorem pk_X9_mean_1 : GoodIn wsL_law ((wsX9_mean.drop 24).take 24) := goodIn_c [(9, 7), (9, 8), (9, 9), (4, 8), (4, 9), (4, 10), (4, 11), (2, 20), (12, 11), (12, 12), (12, 13), (12, 14), (12, 15), (12, 16), (12, 17), (12, 18), (12, 19), (12, 20), (12, 21), (12, 22), (6, 1), (6, 2), (6, 3), (6, 4)] (by decide +kernel) (by decide +kernel)
set_option maxRecDepth 20000 in
theorem pk_X9_mean_2 : GoodIn wsL_law ((wsX9_mean.drop 48).take 24) := goodIn_c [(2, 22), (6, 5), (6, 6), (6, 7), (6, 8), (2, 21), (12, 23), (13, 0), (13, 1), (13, 2), (13, 3), (13, 4), (13, 5), (13, 6), (13, 8), (13, 9), (13, 10), (13, 11), (13, 12), (13, 13), (13, 14), (13, 15), (13, 16), (13, 17)] (by decide +kernel) (by decide +kernel)
set_option maxRecDepth 20000 in
theorem pk_X9_mean_3 : GoodIn wsL_law ((wsX9_mean.drop 72).take 24) := goodIn_c [(13, 18), (13, 19), (13, 20), (13, 21), (13, 22), (13, 23), (14, 0), (14, 1), (14, 2), (14, 3), (14, 4), (14, 5), (14, 6), (14, 7), (14, 8), (14, 9), (14, 10), (14, 11), (14, 12), (14, 13), (14, 14), (14, 15), (14, 16), (14, 17)] (by decide +kernel) (by decide +kernel)
set_option maxRecDepth 20000 in
theorem pk_X9_mean_4 : GoodIn wsL_law (wsX9_mean.drop 96) := goodIn_c [(14, 18), (14, 19), (14, 20), (14, 21), (14, 22), (14, 23), (15, 0), (15, 1), (15, 2), (3, 0), (30, 0), (30, 1), (30, 2), (30, 3), (30, 4), (30, 5), (30, 6), (30, 7), (30, 8), (30, 9), (30, 10), (30, 11), (30, 12), (30, 13)] (by decide +kernel) (by decide +kernel)
theorem ggL_law_X9_mean : GoodIn wsL_law wsX9_mean := (goodIn_tk 0 24 pk_X9_mean_0 (goodIn_tk 24 24 pk_X9_mean_1 (goodIn_tk 48 24 pk_X9_mean_2 (goodIn_tk 72 24 pk_X9_mean_3 pk_X9_mean_4))))
set_option maxRecDepth 20000 in
theorem gL_law_X9_mean : GoodIn wsL_law (wsV RL 61 RX9 yX9_mean wsX9_mean) := goodIn_app (goodIn_c [(18, 14), (18, 15), (18, 16), (0, 5)] (by decide +kernel) (by decide +kernel)) ggL_law_X9_mean
set_option maxRecDepth 20000 in
theorem pk_X8_odds_0 : GoodIn wsL_law ((wsX8_odds.drop 0).take 24) := goodIn_c [(19, 5), (0, 17), (0, 23), (19, 6), (19, 7), (19, 8), (0, 2), (19, 9), (0, 19), (0, 18), (16, 7), (17, 15), (17, 16), (17, 17), (17, 18), (17, 19), (17, 20), (9, 14), (9, 15), (9, 16), (9, 17), (9, 18), (9, 19), (19, 10)] (by decide +kernel) (by decide +kernel)
set_option maxRecDepth 20000 in
theorem pk_X8_odds_1 : GoodIn wsL_law ((wsX8_odds.drop 24).take 24) := goodIn_c [(19, 11), (19, 12), (0, 22), (19, 13), (1, 15), (19, 14), (3, 10), (3, 11), (3, 12), (3, 13), (0, 13), (18, 2), (18, 3), (18, 4), (18, 5), (8, 9), (8, 10), (8, 11), (1, 5), (8, 12), (2, 3), (7, 1), (7, 2), (7, 3)] (by decide +kernel) (by decide +kernel)
set_option maxRecDepth 20000 in
theorem pk_X8_odds_2 : GoodIn wsL_law ((wsX8_odds.drop 48).take 24) := goodIn_c [(7, 4), (4, 16), (4, 17), (4, 18), (4, 19), (4, 20), (4, 21), (4, 22), (4, 23), (2, 5), (7, 5), (7, 6), (7, 7), (2, 7), (7, 8), (5, 13), (9, 20), (9, 21), (9, 22), (9, 23), (10, 0), (10, 1), (10, 2), (10, 3)] (by decide +kernel) (by decide +kernel)
set_option maxRecDepth 20000 in
theorem pk_X8_odds_3 : GoodIn wsL_law ((wsX8_odds.drop 72).take 24) := goodIn_c [(10, 4), (10, 5), (10, 6), (10, 7), (10, 8), (7, 22), (7, 23), (8, 0), (5, 4), (2, 15), (10, 9), (10, 10), (10, 11), (10, 12), (10, 13), (3, 18), (3, 19), (3, 20), (10, 14), (10, 15), (10, 16), (0, 16), (10, 17), (10, 18)] (by decide +kernel) (by decide +kernel)
set_option maxRecDepth 20000 in
theorem pk_X8_odds_4 : GoodIn wsL_law ((wsX8_odds.drop 96).take 24) := goodIn_c [(1, 9), (10, 19), (10, 20), (10, 21), (10, 22), (10, 23), (11, 0), (11, 1), (11, 2), (11, 3), (11, 4), (11, 5), (11, 6), (11, 7), (11, 8), (11, 9), (11, 10), (11, 11), (11, 12), (11, 13), (11, 14), (11, 15), (11, 16), (11, 17)] (by decide +kernel) (by decide +kernel)
set_option maxRecDepth 20000 in
theorem pk_X8_odds_5 : GoodIn wsL_law ((wsX8_odds.drop 120).take 24) := goodIn_c [(11, 18), (11, 19), (11, 20), (8, 14), (8, 15), (8, 16), (11, 21), (11, 22), (11, 23), (12, 0), (5, 6), (5, 7), (5, 8), (12, 1), (12, 2), (12, 3), (18, 6), (18, 7), (18, 8), (18, 9), (18, 10), (18, 11), (18, 12), (18, 13)] (by decide +kernel) (by decide +kernel)
set_option maxRecDepth 20000 in
theorem pk_X8_odds_6 : GoodIn wsL_law ((wsX8_odds.drop 144).take 24) := goodIn_c [(19, 15), (19, 16), (19, 17), (19, 18), (1, 14), (19, 19), (15, 20), (15, 21), (15, 22), (19, 20), (15, 8), (15, 9), (15, 10), (19, 21), (19, 22), (19, 23), (20, 0), (20, 1), (20, 2), (20, 3), (20, 4), (20, 5), (20, 6), (20, 7)] (by decide +kernel) (by decide +kernel)
set_option maxRecDepth 20000 in
theorem pk_X8_odds_7 : GoodIn wsL_law (wsX8_odds.drop 168) := goodIn_c [(20, 8), (18, 1), (29, 0), (29, 1), (29, 2), (29, 3), (29, 4), (29, 5), (32, 0), (32, 1), (32, 2), (34, 0), (34, 1), (35, 0), (35, 1), (35, 2), (31, 0), (31, 1)] (by decide +kernel) (by decide +kernel)
theorem ggL_law_X8_odds : GoodIn wsL_law wsX8_odds := (goodIn_tk 0 24 pk_X8_odds_0 (goodIn_tk 24 24 pk_X8_odds_1 (goodIn_tk 48 24 pk_X8_odds_2 (goodIn_tk 72 24 pk_X8_odds_3 (goodIn_tk 96 24 pk_X8_odds_4 (goodIn_tk 120 24 pk_X8_odds_5 (goodIn_tk 144 24 pk_X8_odds_6 pk_X8_odds_7)))))))
set_option maxRecDepth 20000 in
theorem gL_law_X8_odds : GoodIn wsL_law (wsV RL 62 RX8 yX8_odds wsX8_odds) := goodIn_app (goodIn_c [(19, 2), (19, 3), (19, 4), (0, 2)] (by decide +kernel) (by decide +kernel)) ggL_law_X8_odds
