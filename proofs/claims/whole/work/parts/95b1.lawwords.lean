/-! 95b1: more of them -/
set_option maxRecDepth 20000 in
theorem pk_X8_init_0 : GoodIn wsL_law ((wsX8_init.drop 0).take 24) := goodIn_c [(0, 8), (0, 9), (0, 10), (0, 11), (0, 12), (0, 13), (0, 14), (0, 15), (0, 16), (0, 17), (0, 18), (0, 19), (0, 20), (0, 21), (0, 22), (0, 23), (1, 0), (1, 1), (1, 2), (1, 3), (1, 4), (1, 5), (1, 6), (1, 7)] (by decide +kernel) (by decide +kernel)
set_option maxRecDepth 20000 in
theorem pk_X8_init_1 : GoodIn wsL_law ((wsX8_init.drop 24).take 24) := goodIn_c [(1, 8), (1, 9), (1, 10), (1, 11), (1, 12), (1, 13), (1, 14), (1, 15), (1, 16), (1, 17), (1, 18), (1, 19), (1, 20), (1, 21), (1, 22), (1, 23), (2, 0), (2, 1), (2, 2), (2, 3), (2, 4), (2, 5), (2, 6), (2, 7)] (by decide +kernel) (by decide +kernel)
set_option maxRecDepth 20000 in
theorem pk_X8_init_2 : GoodIn wsL_law ((wsX8_init.drop 48).take 24) := goodIn_c [(2, 8), (2, 9), (2, 10), (2, 11), (2, 12), (2, 13), (2, 14), (2, 15), (29, 0), (29, 1), (29, 2), (29, 3), (29, 4), (29, 5), (31, 0), (31, 1), (32, 0), (32, 1), (32, 2), (33, 0), (33, 1), (33, 2), (33, 3), (33, 4)] (by decide +kernel) (by decide +kernel)
set_option maxRecDepth 20000 in
theorem pk_X8_init_3 : GoodIn wsL_law (wsX8_init.drop 72) := goodIn_c [(33, 5), (33, 6), (34, 0), (34, 1), (35, 0), (35, 1), (35, 2)] (by decide +kernel) (by decide +kernel)
theorem ggL_law_X8_init : GoodIn wsL_law wsX8_init := (goodIn_tk 0 24 pk_X8_init_0 (goodIn_tk 24 24 pk_X8_init_1 (goodIn_tk 48 24 pk_X8_init_2 pk_X8_init_3)))
set_option maxRecDepth 20000 in
theorem gL_law_X8_init : GoodIn wsL_law (wsX8_init) := ggL_law_X8_init
set_option maxRecDepth 20000 in
theorem pk_X9_init_0 : GoodIn wsL_law ((wsX9_init.drop 0).take 24) := goodIn_c [(2, 18), (2, 19), (0, 10), (0, 11), (1, 19), (2, 20), (2, 21), (2, 22), (1, 21), (2, 23), (3, 0), (3, 1), (1, 13), (3, 2), (3, 3), (3, 4), (3, 5), (30, 0), (30, 1), (30, 2), (30, 3), (30, 4), (30, 5), (30, 6)] (by decide +kernel) (by decide +kernel)
set_option maxRecDepth 20000 in
theorem pk_X9_init_1 : GoodIn wsL_law (wsX9_init.drop 24) := goodIn_c [(30, 7), (30, 8), (30, 9), (30, 10), (30, 11), (30, 12), (30, 13)] (by decide +kernel) (by decide +kernel)
theorem ggL_law_X9_init : GoodIn wsL_law wsX9_init := (goodIn_tk 0 24 pk_X9_init_0 pk_X9_init_1)
set_option maxRecDepth 20000 in
theorem gL_law_X9_init : GoodIn wsL_law (wsX9_init) := ggL_law_X9_init
set_option maxRecDepth 20000 in
theorem pk_X8_grade_0 : GoodIn wsL_law ((wsX8_grade.drop 0).take 24) := goodIn_c [(3, 9), (3, 10), (3, 11), (3, 12), (0, 2), (3, 13), (0, 13), (3, 14), (3, 15), (3, 16), (3, 17), (3, 18), (3, 19), (1, 5), (3, 20), (2, 3), (3, 21), (3, 22), (3, 23), (4, 0), (29, 0), (29, 1), (29, 2), (29, 3)] (by decide +kernel) (by decide +kernel)
set_option maxRecDepth 20000 in
theorem pk_X8_grade_1 : GoodIn wsL_law (wsX8_grade.drop 24) := goodIn_c [(29, 4), (29, 5), (34, 0), (34, 1)] (by decide +kernel) (by decide +kernel)
theorem ggL_law_X8_grade : GoodIn wsL_law wsX8_grade := (goodIn_tk 0 24 pk_X8_grade_0 pk_X8_grade_1)
set_option maxRecDepth 20000 in
theorem gL_law_X8_grade : GoodIn wsL_law (wsV RL 13 RX8 yX8_grade wsX8_grade) := goodIn_app (goodIn_c [(3, 6), (3, 7), (3, 8), (0, 2)] (by decide +kernel) (by decide +kernel)) ggL_law_X8_grade
set_option maxRecDepth 20000 in
theorem pk_X9_grade_0 : GoodIn wsL_law (wsX9_grade.drop 0) := goodIn_c [(4, 4), (2, 20), (4, 5), (4, 6), (0, 5), (4, 7), (4, 8), (4, 9), (4, 10), (4, 11), (30, 0), (30, 1), (30, 2), (30, 3), (30, 4), (30, 5), (30, 6), (30, 7), (30, 8), (30, 9), (30, 10), (30, 11), (30, 12), (30, 13)] (by decide +kernel) (by decide +kernel)
theorem ggL_law_X9_grade : GoodIn wsL_law wsX9_grade := pk_X9_grade_0
set_option maxRecDepth 20000 in
theorem gL_law_X9_grade : GoodIn wsL_law (wsV RL 17 RX9 yX9_grade wsX9_grade) := goodIn_app (goodIn_c [(4, 1), (4, 2), (4, 3), (0, 5)] (by decide +kernel) (by decide +kernel)) ggL_law_X9_grade
set_option maxRecDepth 20000 in
theorem pk_X8_rank_0 : GoodIn wsL_law ((wsX8_rank.drop 0).take 24) := goodIn_c [(4, 15), (4, 16), (4, 17), (4, 18), (0, 2), (4, 19), (3, 10), (3, 11), (3, 12), (3, 13), (0, 13), (4, 20), (4, 21), (4, 22), (1, 5), (4, 23), (2, 5), (3, 14), (3, 15), (3, 16), (5, 0), (5, 1), (5, 2), (2, 7)] (by decide +kernel) (by decide +kernel)
set_option maxRecDepth 20000 in
theorem pk_X8_rank_1 : GoodIn wsL_law (wsX8_rank.drop 24) := goodIn_c [(5, 3), (5, 4), (2, 15), (5, 5), (5, 6), (5, 7), (5, 8), (5, 9), (5, 10), (5, 11), (5, 12), (5, 13), (29, 0), (29, 1), (29, 2), (29, 3), (29, 4), (29, 5), (34, 0), (34, 1), (35, 0), (35, 1), (35, 2)] (by decide +kernel) (by decide +kernel)
theorem ggL_law_X8_rank : GoodIn wsL_law wsX8_rank := (goodIn_tk 0 24 pk_X8_rank_0 pk_X8_rank_1)
set_option maxRecDepth 20000 in
theorem gL_law_X8_rank : GoodIn wsL_law (wsV RL 18 RX8 yX8_rank wsX8_rank) := goodIn_app (goodIn_c [(4, 12), (4, 13), (4, 14), (0, 2)] (by decide +kernel) (by decide +kernel)) ggL_law_X8_rank
set_option maxRecDepth 20000 in
theorem pk_X9_rank_0 : GoodIn wsL_law ((wsX9_rank.drop 0).take 24) := goodIn_c [(5, 17), (2, 23), (2, 22), (2, 21), (5, 18), (5, 19), (0, 5), (5, 20), (4, 5), (4, 6), (4, 7), (5, 21), (5, 22), (5, 23), (6, 0), (6, 1), (6, 2), (6, 3), (6, 4), (6, 5), (6, 6), (6, 7), (6, 8), (30, 0)] (by decide +kernel) (by decide +kernel)
set_option maxRecDepth 20000 in
theorem pk_X9_rank_1 : GoodIn wsL_law (wsX9_rank.drop 24) := goodIn_c [(30, 1), (30, 2), (30, 3), (30, 4), (30, 5), (30, 6), (30, 7), (30, 8), (30, 9), (30, 10), (30, 11), (30, 12), (30, 13)] (by decide +kernel) (by decide +kernel)
theorem ggL_law_X9_rank : GoodIn wsL_law wsX9_rank := (goodIn_tk 0 24 pk_X9_rank_0 pk_X9_rank_1)
set_option maxRecDepth 20000 in
theorem gL_law_X9_rank : GoodIn wsL_law (wsV RL 21 RX9 yX9_rank wsX9_rank) := goodIn_app (goodIn_c [(5, 14), (5, 15), (5, 16), (0, 5)] (by decide +kernel) (by decide +kernel)) ggL_law_X9_rank
set_option maxRecDepth 20000 in
theorem pk_X8_empty_0 : GoodIn wsL_law ((wsX8_empty.drop 0).take 24) := goodIn_c [(6, 12), (4, 16), (4, 17), (4, 18), (0, 2), (4, 19), (3, 10), (3, 11), (3, 12), (3, 13), (0, 13), (4, 20), (4, 21), (4, 22), (1, 5), (4, 23), (2, 5), (5, 5), (5, 6), (5, 7), (2, 7), (5, 8), (5, 4), (6, 13)] (by decide +kernel) (by decide +kernel)
set_option maxRecDepth 20000 in
theorem pk_X8_empty_1 : GoodIn wsL_law (wsX8_empty.drop 24) := goodIn_c [(6, 14), (6, 15), (6, 16), (5, 13), (29, 0), (29, 1), (29, 2), (29, 3), (29, 4), (29, 5), (34, 0), (34, 1), (35, 0), (35, 1), (35, 2)] (by decide +kernel) (by decide +kernel)
theorem ggL_law_X8_empty : GoodIn wsL_law wsX8_empty := (goodIn_tk 0 24 pk_X8_empty_0 pk_X8_empty_1)
set_option maxRecDepth 20000 in
theorem gL_law_X8_empty : GoodIn wsL_law (wsV RL 22 RX8 yX8_empty wsX8_empty) := goodIn_app (goodIn_c [(6, 9), (6, 10), (6, 11), (0, 2)] (by decide +kernel) (by decide +kernel)) ggL_law_X8_empty
set_option maxRecDepth 20000 in
theorem pk_X9_empty_0 : GoodIn wsL_law (wsX9_empty.drop 0) := goodIn_c [(6, 20), (2, 23), (2, 22), (5, 18), (5, 19), (0, 5), (5, 20), (4, 5), (4, 6), (4, 7), (30, 0), (30, 1), (30, 2), (30, 3), (30, 4), (30, 5), (30, 6), (30, 7), (30, 8), (30, 9), (30, 10), (30, 11), (30, 12), (30, 13)] (by decide +kernel) (by decide +kernel)
theorem ggL_law_X9_empty : GoodIn wsL_law wsX9_empty := pk_X9_empty_0
set_option maxRecDepth 20000 in
theorem gL_law_X9_empty : GoodIn wsL_law (wsV RL 26 RX9 yX9_empty wsX9_empty) := goodIn_app (goodIn_c [(6, 17), (6, 18), (6, 19), (0, 5)] (by decide +kernel) (by decide +kernel)) ggL_law_X9_empty
set_option maxRecDepth 20000 in
theorem pk_X8_drop_0 : GoodIn wsL_law ((wsX8_drop.drop 0).take 24) := goodIn_c [(7, 0), (7, 1), (7, 2), (7, 3), (0, 2), (7, 4), (4, 16), (4, 17), (4, 18), (4, 19), (3, 10), (3, 11), (3, 12), (3, 13), (0, 13), (4, 20), (4, 21), (4, 22), (1, 5), (4, 23), (2, 5), (7, 5), (7, 6), (7, 7)] (by decide +kernel) (by decide +kernel)
set_option maxRecDepth 20000 in
theorem pk_X8_drop_1 : GoodIn wsL_law (wsX8_drop.drop 24) := goodIn_c [(2, 7), (7, 8), (5, 13), (6, 13), (6, 14), (6, 15), (6, 16), (5, 4), (29, 0), (29, 1), (29, 2), (29, 3), (29, 4), (29, 5), (34, 0), (34, 1), (35, 0), (35, 1), (35, 2)] (by decide +kernel) (by decide +kernel)
theorem ggL_law_X8_drop : GoodIn wsL_law wsX8_drop := (goodIn_tk 0 24 pk_X8_drop_0 pk_X8_drop_1)
set_option maxRecDepth 20000 in
theorem gL_law_X8_drop : GoodIn wsL_law (wsV RL 27 RX8 yX8_drop wsX8_drop) := goodIn_app (goodIn_c [(6, 21), (6, 22), (6, 23), (0, 2)] (by decide +kernel) (by decide +kernel)) ggL_law_X8_drop
set_option maxRecDepth 20000 in
theorem pk_X9_drop_0 : GoodIn wsL_law ((wsX9_drop.drop 0).take 24) := goodIn_c [(7, 12), (2, 23), (2, 22), (7, 13), (7, 14), (7, 15), (0, 5), (7, 16), (5, 18), (5, 19), (5, 20), (4, 5), (4, 6), (4, 7), (30, 0), (30, 1), (30, 2), (30, 3), (30, 4), (30, 5), (30, 6), (30, 7), (30, 8), (30, 9)] (by decide +kernel) (by decide +kernel)
set_option maxRecDepth 20000 in
theorem pk_X9_drop_1 : GoodIn wsL_law (wsX9_drop.drop 24) := goodIn_c [(30, 10), (30, 11), (30, 12), (30, 13)] (by decide +kernel) (by decide +kernel)
theorem ggL_law_X9_drop : GoodIn wsL_law wsX9_drop := (goodIn_tk 0 24 pk_X9_drop_0 pk_X9_drop_1)
set_option maxRecDepth 20000 in
theorem gL_law_X9_drop : GoodIn wsL_law (wsV RL 30 RX9 yX9_drop wsX9_drop) := goodIn_app (goodIn_c [(7, 9), (7, 10), (7, 11), (0, 5)] (by decide +kernel) (by decide +kernel)) ggL_law_X9_drop
set_option maxRecDepth 20000 in
theorem pk_X8_at_0 : GoodIn wsL_law ((wsX8_at.drop 0).take 24) := goodIn_c [(7, 20), (7, 1), (7, 2), (7, 3), (0, 2), (7, 4), (4, 16), (4, 17), (4, 18), (4, 19), (3, 10), (3, 11), (3, 12), (3, 13), (0, 13), (4, 20), (4, 21), (4, 22), (1, 5), (4, 23), (2, 5), (7, 5), (7, 6), (7, 7)] (by decide +kernel) (by decide +kernel)
set_option maxRecDepth 20000 in
theorem pk_X8_at_1 : GoodIn wsL_law (wsX8_at.drop 24) := goodIn_c [(2, 7), (7, 8), (5, 13), (7, 21), (7, 22), (7, 23), (8, 0), (5, 4), (2, 15), (29, 0), (29, 1), (29, 2), (29, 3), (29, 4), (29, 5), (34, 0), (34, 1), (35, 0), (35, 1), (35, 2)] (by decide +kernel) (by decide +kernel)
theorem ggL_law_X8_at : GoodIn wsL_law wsX8_at := (goodIn_tk 0 24 pk_X8_at_0 pk_X8_at_1)
set_option maxRecDepth 20000 in
theorem gL_law_X8_at : GoodIn wsL_law (wsV RL 31 RX8 yX8_at wsX8_at) := goodIn_app (goodIn_c [(7, 17), (7, 18), (7, 19), (0, 2)] (by decide +kernel) (by decide +kernel)) ggL_law_X8_at
set_option maxRecDepth 20000 in
theorem pk_X9_at_0 : GoodIn wsL_law ((wsX9_at.drop 0).take 24) := goodIn_c [(8, 4), (7, 13), (7, 14), (7, 15), (0, 5), (7, 16), (2, 23), (5, 18), (5, 19), (5, 20), (4, 5), (4, 6), (4, 7), (6, 1), (6, 2), (6, 3), (6, 4), (2, 22), (6, 5), (6, 6), (6, 7), (6, 8), (2, 21), (30, 0)] (by decide +kernel) (by decide +kernel)
set_option maxRecDepth 20000 in
theorem pk_X9_at_1 : GoodIn wsL_law (wsX9_at.drop 24) := goodIn_c [(30, 1), (30, 2), (30, 3), (30, 4), (30, 5), (30, 6), (30, 7), (30, 8), (30, 9), (30, 10), (30, 11), (30, 12), (30, 13)] (by decide +kernel) (by decide +kernel)
theorem ggL_law_X9_at : GoodIn wsL_law wsX9_at := (goodIn_tk 0 24 pk_X9_at_0 pk_X9_at_1)
set_option maxRecDepth 20000 in
theorem gL_law_X9_at : GoodIn wsL_law (wsV RL 34 RX9 yX9_at wsX9_at) := goodIn_app (goodIn_c [(8, 1), (8, 2), (8, 3), (0, 5)] (by decide +kernel) (by decide +kernel)) ggL_law_X9_at
set_option maxRecDepth 20000 in
theorem pk_X8_count_0 : GoodIn wsL_law ((wsX8_count.drop 0).take 24) := goodIn_c [(8, 8), (3, 10), (3, 11), (3, 12), (0, 2), (3, 13), (0, 13), (8, 9), (8, 10), (8, 11), (1, 5), (8, 12), (2, 3), (8, 13), (8, 14), (8, 15), (8, 16), (8, 17), (8, 18), (8, 19), (8, 20), (2, 5), (8, 21), (7, 6)] (by decide +kernel) (by decide +kernel)
set_option maxRecDepth 20000 in
theorem pk_X8_count_1 : GoodIn wsL_law (wsX8_count.drop 24) := goodIn_c [(7, 7), (2, 7), (7, 8), (5, 13), (29, 0), (29, 1), (29, 2), (29, 3), (29, 4), (29, 5), (34, 0), (34, 1), (35, 0), (35, 1), (35, 2)] (by decide +kernel) (by decide +kernel)
theorem ggL_law_X8_count : GoodIn wsL_law wsX8_count := (goodIn_tk 0 24 pk_X8_count_0 pk_X8_count_1)
set_option maxRecDepth 20000 in
theorem gL_law_X8_count : GoodIn wsL_law (wsV RL 35 RX8 yX8_count wsX8_count) := goodIn_app (goodIn_c [(8, 5), (8, 6), (8, 7), (0, 2)] (by decide +kernel) (by decide +kernel)) ggL_law_X8_count
set_option maxRecDepth 20000 in
theorem pk_X9_count_0 : GoodIn wsL_law ((wsX9_count.drop 0).take 24) := goodIn_c [(9, 1), (2, 23), (4, 5), (4, 6), (0, 5), (4, 7), (9, 2), (9, 3), (9, 4), (9, 5), (9, 6), (9, 7), (9, 8), (9, 9), (4, 8), (4, 9), (4, 10), (4, 11), (2, 20), (30, 0), (30, 1), (30, 2), (30, 3), (30, 4)] (by decide +kernel) (by decide +kernel)
set_option maxRecDepth 20000 in
theorem pk_X9_count_1 : GoodIn wsL_law (wsX9_count.drop 24) := goodIn_c [(30, 5), (30, 6), (30, 7), (30, 8), (30, 9), (30, 10), (30, 11), (30, 12), (30, 13)] (by decide +kernel) (by decide +kernel)
theorem ggL_law_X9_count : GoodIn wsL_law wsX9_count := (goodIn_tk 0 24 pk_X9_count_0 pk_X9_count_1)
set_option maxRecDepth 20000 in
theorem gL_law_X9_count : GoodIn wsL_law (wsV RL 38 RX9 yX9_count wsX9_count) := goodIn_app (goodIn_c [(8, 22), (8, 23), (9, 0), (0, 5)] (by decide +kernel) (by decide +kernel)) ggL_law_X9_count
set_option maxRecDepth 20000 in
theorem pk_X8_measure_0 : GoodIn wsL_law ((wsX8_measure.drop 0).take 24) := goodIn_c [(9, 13), (0, 17), (3, 10), (3, 11), (3, 12), (0, 2), (3, 13), (0, 13), (7, 1), (7, 2), (7, 3), (7, 4), (4, 16), (4, 17), (4, 18), (4, 19), (4, 20), (4, 21), (4, 22), (1, 5), (4, 23), (2, 5), (7, 5), (7, 6)] (by decide +kernel) (by decide +kernel)
set_option maxRecDepth 20000 in
theorem pk_X8_measure_1 : GoodIn wsL_law ((wsX8_measure.drop 24).take 24) := goodIn_c [(7, 7), (2, 7), (7, 8), (5, 13), (9, 14), (9, 15), (9, 16), (9, 17), (9, 18), (9, 19), (9, 20), (9, 21), (9, 22), (9, 23), (10, 0), (10, 1), (10, 2), (10, 3), (10, 4), (10, 5), (10, 6), (10, 7), (10, 8), (7, 22)] (by decide +kernel) (by decide +kernel)
set_option maxRecDepth 20000 in
theorem pk_X8_measure_2 : GoodIn wsL_law ((wsX8_measure.drop 48).take 24) := goodIn_c [(7, 23), (8, 0), (5, 4), (2, 15), (10, 9), (10, 10), (10, 11), (10, 12), (10, 13), (3, 18), (3, 19), (3, 20), (2, 3), (10, 14), (10, 15), (10, 16), (0, 16), (10, 17), (10, 18), (1, 9), (10, 19), (10, 20), (10, 21), (10, 22)] (by decide +kernel) (by decide +kernel)
set_option maxRecDepth 20000 in
theorem pk_X8_measure_3 : GoodIn wsL_law ((wsX8_measure.drop 72).take 24) := goodIn_c [(10, 23), (11, 0), (11, 1), (11, 2), (11, 3), (8, 10), (8, 11), (8, 12), (11, 4), (11, 5), (11, 6), (11, 7), (11, 8), (11, 9), (11, 10), (11, 11), (11, 12), (11, 13), (11, 14), (11, 15), (11, 16), (11, 17), (11, 18), (11, 19)] (by decide +kernel) (by decide +kernel)
set_option maxRecDepth 20000 in
theorem pk_X8_measure_4 : GoodIn wsL_law ((wsX8_measure.drop 96).take 24) := goodIn_c [(11, 20), (8, 14), (8, 15), (8, 16), (11, 21), (11, 22), (11, 23), (12, 0), (5, 6), (5, 7), (5, 8), (12, 1), (12, 2), (12, 3), (29, 0), (29, 1), (29, 2), (29, 3), (29, 4), (29, 5), (34, 0), (34, 1), (35, 0), (35, 1)] (by decide +kernel) (by decide +kernel)
set_option maxRecDepth 20000 in
theorem pk_X8_measure_5 : GoodIn wsL_law (wsX8_measure.drop 120) := goodIn_c [(35, 2), (31, 0), (31, 1)] (by decide +kernel) (by decide +kernel)
theorem ggL_law_X8_measure : GoodIn wsL_law wsX8_measure := (goodIn_tk 0 24 pk_X8_measure_0 (goodIn_tk 24 24 pk_X8_measure_1 (goodIn_tk 48 24 pk_X8_measure_2 (goodIn_tk 72 24 pk_X8_measure_3 (goodIn_tk 96 24 pk_X8_measure_4 pk_X8_measure_5)))))
set_option maxRecDepth 20000 in
theorem gL_law_X8_measure : GoodIn wsL_law (wsV RL 39 RX8 yX8_measure wsX8_measure) := goodIn_app (goodIn_c [(9, 10), (9, 11), (9, 12), (0, 2)] (by decide +kernel) (by decide +kernel)) ggL_law_X8_measure
