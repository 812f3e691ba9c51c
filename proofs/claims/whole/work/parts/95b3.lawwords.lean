/-! 95b3: more of them -/
set_option maxRecDepth 20000 in
theorem pk_X9_odds_0 : GoodIn wsL_law ((wsX9_odds.drop 0).take 24) := goodIn_c [(20, 12), (3, 3), (3, 2), (20, 13), (20, 14), (20, 15), (0, 5), (20, 16), (5, 18), (5, 19), (5, 20), (18, 18), (18, 19), (18, 20), (18, 21), (12, 8), (12, 9), (12, 10), (20, 17), (20, 18), (20, 19), (20, 20), (13, 7), (3, 1)] (by decide +kernel) (by decide +kernel)
set_option maxRecDepth 20000 in
theorem pk_X9_odds_1 : GoodIn wsL_law ((wsX9_odds.drop 24).take 24) := goodIn_c [(18, 22), (18, 23), (19, 0), (19, 1), (2, 23), (9, 2), (9, 3), (9, 4), (9, 5), (9, 6), (9, 7), (9, 8), (9, 9), (4, 8), (4, 9), (4, 10), (4, 11), (2, 20), (12, 11), (12, 12), (12, 13), (12, 14), (12, 15), (12, 16)] (by decide +kernel) (by decide +kernel)
set_option maxRecDepth 20000 in
theorem pk_X9_odds_2 : GoodIn wsL_law ((wsX9_odds.drop 48).take 24) := goodIn_c [(12, 17), (12, 18), (12, 19), (12, 20), (12, 21), (12, 22), (6, 1), (6, 2), (6, 3), (6, 4), (2, 22), (6, 5), (6, 6), (6, 7), (6, 8), (2, 21), (12, 23), (13, 0), (13, 1), (13, 2), (13, 3), (13, 4), (13, 5), (13, 6)] (by decide +kernel) (by decide +kernel)
set_option maxRecDepth 20000 in
theorem pk_X9_odds_3 : GoodIn wsL_law ((wsX9_odds.drop 72).take 24) := goodIn_c [(13, 8), (13, 9), (13, 10), (13, 11), (13, 12), (13, 13), (13, 14), (13, 15), (13, 16), (13, 17), (13, 18), (13, 19), (13, 20), (13, 21), (13, 22), (13, 23), (14, 0), (14, 1), (14, 2), (14, 3), (14, 4), (14, 5), (14, 6), (14, 7)] (by decide +kernel) (by decide +kernel)
set_option maxRecDepth 20000 in
theorem pk_X9_odds_4 : GoodIn wsL_law ((wsX9_odds.drop 96).take 24) := goodIn_c [(14, 8), (14, 9), (14, 10), (14, 11), (14, 12), (14, 13), (14, 14), (14, 15), (14, 16), (14, 17), (14, 18), (14, 19), (14, 20), (14, 21), (14, 22), (14, 23), (15, 0), (15, 1), (15, 2), (3, 0), (30, 0), (30, 1), (30, 2), (30, 3)] (by decide +kernel) (by decide +kernel)
set_option maxRecDepth 20000 in
theorem pk_X9_odds_5 : GoodIn wsL_law (wsX9_odds.drop 120) := goodIn_c [(30, 4), (30, 5), (30, 6), (30, 7), (30, 8), (30, 9), (30, 10), (30, 11), (30, 12), (30, 13)] (by decide +kernel) (by decide +kernel)
theorem ggL_law_X9_odds : GoodIn wsL_law wsX9_odds := (goodIn_tk 0 24 pk_X9_odds_0 (goodIn_tk 24 24 pk_X9_odds_1 (goodIn_tk 48 24 pk_X9_odds_2 (goodIn_tk 72 24 pk_X9_odds_3 (goodIn_tk 96 24 pk_X9_odds_4 pk_X9_odds_5)))))
set_option maxRecDepth 20000 in
theorem gL_law_X9_odds : GoodIn wsL_law (wsV RL 65 RX9 yX9_odds wsX9_odds) := goodIn_app (goodIn_c [(20, 9), (20, 10), (20, 11), (0, 5)] (by decide +kernel) (by decide +kernel)) ggL_law_X9_odds
set_option maxRecDepth 20000 in
theorem pk_X8_wins_0 : GoodIn wsL_law ((wsX8_wins.drop 0).take 24) := goodIn_c [(21, 0), (0, 23), (17, 15), (17, 16), (0, 2), (17, 17), (19, 6), (19, 7), (19, 8), (19, 9), (0, 19), (0, 18), (16, 7), (17, 18), (17, 19), (17, 20), (9, 14), (9, 15), (9, 16), (9, 17), (9, 18), (9, 19), (19, 10), (19, 11)] (by decide +kernel) (by decide +kernel)
set_option maxRecDepth 20000 in
theorem pk_X8_wins_1 : GoodIn wsL_law ((wsX8_wins.drop 24).take 24) := goodIn_c [(19, 12), (0, 22), (19, 13), (1, 15), (19, 14), (3, 10), (3, 11), (3, 12), (3, 13), (0, 13), (18, 2), (18, 3), (18, 4), (18, 5), (8, 9), (8, 10), (8, 11), (1, 5), (8, 12), (2, 3), (7, 1), (7, 2), (7, 3), (7, 4)] (by decide +kernel) (by decide +kernel)
set_option maxRecDepth 20000 in
theorem pk_X8_wins_2 : GoodIn wsL_law ((wsX8_wins.drop 48).take 24) := goodIn_c [(4, 16), (4, 17), (4, 18), (4, 19), (4, 20), (4, 21), (4, 22), (4, 23), (2, 5), (7, 5), (7, 6), (7, 7), (2, 7), (7, 8), (5, 13), (9, 20), (9, 21), (9, 22), (9, 23), (10, 0), (10, 1), (10, 2), (10, 3), (10, 4)] (by decide +kernel) (by decide +kernel)
set_option maxRecDepth 20000 in
theorem pk_X8_wins_3 : GoodIn wsL_law ((wsX8_wins.drop 72).take 24) := goodIn_c [(10, 5), (10, 6), (10, 7), (10, 8), (7, 22), (7, 23), (8, 0), (5, 4), (2, 15), (10, 9), (10, 10), (10, 11), (10, 12), (10, 13), (3, 18), (3, 19), (3, 20), (10, 14), (10, 15), (10, 16), (0, 16), (10, 17), (10, 18), (1, 9)] (by decide +kernel) (by decide +kernel)
set_option maxRecDepth 20000 in
theorem pk_X8_wins_4 : GoodIn wsL_law ((wsX8_wins.drop 96).take 24) := goodIn_c [(10, 19), (10, 20), (10, 21), (10, 22), (10, 23), (11, 0), (11, 1), (11, 2), (11, 3), (11, 4), (11, 5), (11, 6), (11, 7), (11, 8), (11, 9), (11, 10), (11, 11), (11, 12), (11, 13), (11, 14), (11, 15), (11, 16), (11, 17), (11, 18)] (by decide +kernel) (by decide +kernel)
set_option maxRecDepth 20000 in
theorem pk_X8_wins_5 : GoodIn wsL_law ((wsX8_wins.drop 120).take 24) := goodIn_c [(11, 19), (11, 20), (8, 14), (8, 15), (8, 16), (11, 21), (11, 22), (11, 23), (12, 0), (5, 6), (5, 7), (5, 8), (12, 1), (12, 2), (12, 3), (18, 6), (18, 7), (18, 8), (18, 9), (18, 10), (18, 11), (18, 12), (18, 13), (19, 15)] (by decide +kernel) (by decide +kernel)
set_option maxRecDepth 20000 in
theorem pk_X8_wins_6 : GoodIn wsL_law ((wsX8_wins.drop 144).take 24) := goodIn_c [(19, 16), (19, 17), (19, 18), (1, 14), (19, 19), (15, 20), (15, 21), (15, 22), (19, 20), (15, 8), (15, 9), (15, 10), (19, 21), (19, 22), (19, 23), (20, 0), (21, 1), (21, 2), (21, 3), (21, 4), (21, 5), (21, 6), (21, 7), (21, 8)] (by decide +kernel) (by decide +kernel)
set_option maxRecDepth 20000 in
theorem pk_X8_wins_7 : GoodIn wsL_law (wsX8_wins.drop 168) := goodIn_c [(29, 0), (29, 1), (29, 2), (29, 3), (29, 4), (29, 5), (32, 0), (32, 1), (32, 2), (34, 0), (34, 1), (35, 0), (35, 1), (35, 2), (31, 0), (31, 1)] (by decide +kernel) (by decide +kernel)
theorem ggL_law_X8_wins : GoodIn wsL_law wsX8_wins := (goodIn_tk 0 24 pk_X8_wins_0 (goodIn_tk 24 24 pk_X8_wins_1 (goodIn_tk 48 24 pk_X8_wins_2 (goodIn_tk 72 24 pk_X8_wins_3 (goodIn_tk 96 24 pk_X8_wins_4 (goodIn_tk 120 24 pk_X8_wins_5 (goodIn_tk 144 24 pk_X8_wins_6 pk_X8_wins_7)))))))
set_option maxRecDepth 20000 in
theorem gL_law_X8_wins : GoodIn wsL_law (wsV RL 66 RX8 yX8_wins wsX8_wins) := goodIn_app (goodIn_c [(20, 21), (20, 22), (20, 23), (0, 2)] (by decide +kernel) (by decide +kernel)) ggL_law_X8_wins
set_option maxRecDepth 20000 in
theorem pk_X9_wins_0 : GoodIn wsL_law ((wsX9_wins.drop 0).take 24) := goodIn_c [(21, 12), (3, 2), (20, 13), (20, 14), (20, 15), (0, 5), (20, 16), (5, 18), (5, 19), (5, 20), (18, 18), (18, 19), (18, 20), (18, 21), (12, 8), (12, 9), (12, 10), (20, 17), (20, 18), (20, 19), (20, 20), (13, 7), (3, 1), (3, 3)] (by decide +kernel) (by decide +kernel)
set_option maxRecDepth 20000 in
theorem pk_X9_wins_1 : GoodIn wsL_law ((wsX9_wins.drop 24).take 24) := goodIn_c [(18, 22), (18, 23), (19, 0), (19, 1), (2, 23), (9, 2), (9, 3), (9, 4), (9, 5), (9, 6), (9, 7), (9, 8), (9, 9), (4, 8), (4, 9), (4, 10), (4, 11), (2, 20), (12, 11), (12, 12), (12, 13), (12, 14), (12, 15), (12, 16)] (by decide +kernel) (by decide +kernel)
set_option maxRecDepth 20000 in
theorem pk_X9_wins_2 : GoodIn wsL_law ((wsX9_wins.drop 48).take 24) := goodIn_c [(12, 17), (12, 18), (12, 19), (12, 20), (12, 21), (12, 22), (6, 1), (6, 2), (6, 3), (6, 4), (2, 22), (6, 5), (6, 6), (6, 7), (6, 8), (2, 21), (12, 23), (13, 0), (13, 1), (13, 2), (13, 3), (13, 4), (13, 5), (13, 6)] (by decide +kernel) (by decide +kernel)
set_option maxRecDepth 20000 in
theorem pk_X9_wins_3 : GoodIn wsL_law ((wsX9_wins.drop 72).take 24) := goodIn_c [(13, 8), (13, 9), (13, 10), (13, 11), (13, 12), (13, 13), (13, 14), (13, 15), (13, 16), (13, 17), (13, 18), (13, 19), (13, 20), (13, 21), (13, 22), (13, 23), (14, 0), (14, 1), (14, 2), (14, 3), (14, 4), (14, 5), (14, 6), (14, 7)] (by decide +kernel) (by decide +kernel)
set_option maxRecDepth 20000 in
theorem pk_X9_wins_4 : GoodIn wsL_law ((wsX9_wins.drop 96).take 24) := goodIn_c [(14, 8), (14, 9), (14, 10), (14, 11), (14, 12), (14, 13), (14, 14), (14, 15), (14, 16), (14, 17), (14, 18), (14, 19), (14, 20), (14, 21), (30, 0), (30, 1), (30, 2), (30, 3), (30, 4), (30, 5), (30, 6), (30, 7), (30, 8), (30, 9)] (by decide +kernel) (by decide +kernel)
set_option maxRecDepth 20000 in
theorem pk_X9_wins_5 : GoodIn wsL_law (wsX9_wins.drop 120) := goodIn_c [(30, 10), (30, 11), (30, 12), (30, 13)] (by decide +kernel) (by decide +kernel)
theorem ggL_law_X9_wins : GoodIn wsL_law wsX9_wins := (goodIn_tk 0 24 pk_X9_wins_0 (goodIn_tk 24 24 pk_X9_wins_1 (goodIn_tk 48 24 pk_X9_wins_2 (goodIn_tk 72 24 pk_X9_wins_3 (goodIn_tk 96 24 pk_X9_wins_4 pk_X9_wins_5)))))
set_option maxRecDepth 20000 in
theorem gL_law_X9_wins : GoodIn wsL_law (wsV RL 70 RX9 yX9_wins wsX9_wins) := goodIn_app (goodIn_c [(21, 9), (21, 10), (21, 11), (0, 5)] (by decide +kernel) (by decide +kernel)) ggL_law_X9_wins
set_option maxRecDepth 20000 in
theorem pk_X8_likeness_0 : GoodIn wsL_law ((wsX8_likeness.drop 0).take 24) := goodIn_c [(21, 16), (0, 17), (7, 1), (7, 2), (7, 3), (0, 2), (7, 4), (4, 16), (4, 17), (4, 18), (4, 19), (3, 10), (3, 11), (3, 12), (3, 13), (0, 13), (4, 20), (4, 21), (4, 22), (1, 5), (4, 23), (2, 5), (7, 5), (7, 6)] (by decide +kernel) (by decide +kernel)
set_option maxRecDepth 20000 in
theorem pk_X8_likeness_1 : GoodIn wsL_law ((wsX8_likeness.drop 24).take 24) := goodIn_c [(7, 7), (2, 7), (7, 8), (5, 13), (21, 17), (21, 18), (21, 19), (21, 20), (21, 21), (5, 6), (5, 7), (5, 8), (5, 4), (21, 22), (7, 22), (7, 23), (8, 0), (2, 15), (21, 23), (5, 1), (5, 2), (5, 3), (22, 0), (10, 15)] (by decide +kernel) (by decide +kernel)
set_option maxRecDepth 20000 in
theorem pk_X8_likeness_2 : GoodIn wsL_law ((wsX8_likeness.drop 48).take 24) := goodIn_c [(10, 16), (0, 16), (10, 17), (10, 18), (1, 9), (10, 19), (10, 20), (10, 21), (10, 22), (10, 3), (10, 23), (11, 0), (11, 1), (11, 2), (29, 0), (29, 1), (29, 2), (29, 3), (29, 4), (29, 5), (34, 0), (34, 1), (35, 0), (35, 1)] (by decide +kernel) (by decide +kernel)
set_option maxRecDepth 20000 in
theorem pk_X8_likeness_3 : GoodIn wsL_law (wsX8_likeness.drop 72) := goodIn_c [(35, 2), (31, 0), (31, 1)] (by decide +kernel) (by decide +kernel)
theorem ggL_law_X8_likeness : GoodIn wsL_law wsX8_likeness := (goodIn_tk 0 24 pk_X8_likeness_0 (goodIn_tk 24 24 pk_X8_likeness_1 (goodIn_tk 48 24 pk_X8_likeness_2 pk_X8_likeness_3)))
set_option maxRecDepth 20000 in
theorem gL_law_X8_likeness : GoodIn wsL_law (wsV RL 71 RX8 yX8_likeness wsX8_likeness) := goodIn_app (goodIn_c [(21, 13), (21, 14), (21, 15), (0, 2)] (by decide +kernel) (by decide +kernel)) ggL_law_X8_likeness
set_option maxRecDepth 20000 in
theorem pk_X9_likeness_0 : GoodIn wsL_law ((wsX9_likeness.drop 0).take 24) := goodIn_c [(22, 4), (17, 5), (7, 13), (7, 14), (7, 15), (0, 5), (7, 16), (2, 23), (5, 18), (5, 19), (5, 20), (4, 5), (4, 6), (4, 7), (6, 1), (6, 2), (6, 3), (6, 4), (2, 22), (5, 21), (5, 22), (5, 23), (6, 0), (6, 5)] (by decide +kernel) (by decide +kernel)
set_option maxRecDepth 20000 in
theorem pk_X9_likeness_1 : GoodIn wsL_law ((wsX9_likeness.drop 24).take 24) := goodIn_c [(6, 6), (6, 7), (6, 8), (2, 21), (13, 3), (13, 4), (13, 5), (13, 6), (13, 7), (3, 1), (13, 8), (13, 9), (13, 10), (14, 22), (14, 23), (15, 0), (15, 1), (15, 2), (3, 0), (30, 0), (30, 1), (30, 2), (30, 3), (30, 4)] (by decide +kernel) (by decide +kernel)
set_option maxRecDepth 20000 in
theorem pk_X9_likeness_2 : GoodIn wsL_law (wsX9_likeness.drop 48) := goodIn_c [(30, 5), (30, 6), (30, 7), (30, 8), (30, 9), (30, 10), (30, 11), (30, 12), (30, 13)] (by decide +kernel) (by decide +kernel)
theorem ggL_law_X9_likeness : GoodIn wsL_law wsX9_likeness := (goodIn_tk 0 24 pk_X9_likeness_0 (goodIn_tk 24 24 pk_X9_likeness_1 pk_X9_likeness_2))
set_option maxRecDepth 20000 in
theorem gL_law_X9_likeness : GoodIn wsL_law (wsV RL 74 RX9 yX9_likeness wsX9_likeness) := goodIn_app (goodIn_c [(22, 1), (22, 2), (22, 3), (0, 5)] (by decide +kernel) (by decide +kernel)) ggL_law_X9_likeness
set_option maxRecDepth 20000 in
theorem pk_X8_overlap_0 : GoodIn wsL_law ((wsX8_overlap.drop 0).take 24) := goodIn_c [(22, 8), (0, 17), (7, 1), (7, 2), (7, 3), (0, 2), (7, 4), (4, 16), (4, 17), (4, 18), (4, 19), (3, 10), (3, 11), (3, 12), (3, 13), (0, 13), (4, 20), (4, 21), (4, 22), (1, 5), (4, 23), (2, 5), (7, 5), (7, 6)] (by decide +kernel) (by decide +kernel)
set_option maxRecDepth 20000 in
theorem pk_X8_overlap_1 : GoodIn wsL_law ((wsX8_overlap.drop 24).take 24) := goodIn_c [(7, 7), (2, 7), (7, 8), (5, 13), (9, 17), (9, 18), (9, 19), (22, 9), (22, 10), (21, 19), (22, 11), (22, 12), (22, 13), (22, 14), (22, 15), (21, 21), (5, 6), (5, 7), (5, 8), (5, 4), (21, 22), (7, 22), (7, 23), (8, 0)] (by decide +kernel) (by decide +kernel)
set_option maxRecDepth 20000 in
theorem pk_X8_overlap_2 : GoodIn wsL_law ((wsX8_overlap.drop 48).take 24) := goodIn_c [(2, 15), (22, 16), (22, 17), (22, 18), (22, 19), (22, 20), (5, 1), (5, 2), (5, 3), (22, 0), (10, 15), (10, 16), (0, 16), (10, 17), (10, 18), (1, 9), (10, 19), (10, 20), (10, 21), (10, 22), (10, 3), (10, 23), (11, 0), (11, 1)] (by decide +kernel) (by decide +kernel)
set_option maxRecDepth 20000 in
theorem pk_X8_overlap_3 : GoodIn wsL_law (wsX8_overlap.drop 72) := goodIn_c [(11, 2), (29, 0), (29, 1), (29, 2), (29, 3), (29, 4), (29, 5), (34, 0), (34, 1), (35, 0), (35, 1), (35, 2), (31, 0), (31, 1)] (by decide +kernel) (by decide +kernel)
theorem ggL_law_X8_overlap : GoodIn wsL_law wsX8_overlap := (goodIn_tk 0 24 pk_X8_overlap_0 (goodIn_tk 24 24 pk_X8_overlap_1 (goodIn_tk 48 24 pk_X8_overlap_2 pk_X8_overlap_3)))
set_option maxRecDepth 20000 in
theorem gL_law_X8_overlap : GoodIn wsL_law (wsV RL 75 RX8 yX8_overlap wsX8_overlap) := goodIn_app (goodIn_c [(22, 5), (22, 6), (22, 7), (0, 2)] (by decide +kernel) (by decide +kernel)) ggL_law_X8_overlap
