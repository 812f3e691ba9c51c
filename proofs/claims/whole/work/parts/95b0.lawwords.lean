set_option maxRecDepth 20000 in
theorem ggL_law_X8_init : GoodIn wsL_law wsX8_init := goodIn_r _ [8, 9, 10, 11, 12, 13, 14, 15, 16, 17, 18, 19, 20, 21, 22, 23, 24, 25, 26, 27, 28, 29, 30, 31, 32, 33, 34, 35, 36, 37, 38, 39, 40, 41, 42, 43, 44, 45, 46, 47, 48, 49, 50, 51, 52, 53, 54, 55, 56, 57, 58, 59, 60, 61, 62, 63, 675, 676, 677, 678, 679, 680, 695, 696, 697, 698, 699, 700, 701, 702, 703, 704, 705, 706, 707, 708, 709, 710, 711] (by decide +kernel) (by decide +kernel)
set_option maxRecDepth 20000 in
theorem gL_law_X8_init : GoodIn wsL_law (wsX8_init) := ggL_law_X8_init
set_option maxRecDepth 20000 in
theorem ggL_law_X9_init : GoodIn wsL_law wsX9_init := goodIn_r _ [66, 67, 10, 11, 43, 68, 69, 70, 45, 71, 72, 73, 37, 74, 75, 76, 77, 681, 682, 683, 684, 685, 686, 687, 688, 689, 690, 691, 692, 693, 694] (by decide +kernel) (by decide +kernel)
set_option maxRecDepth 20000 in
theorem gL_law_X9_init : GoodIn wsL_law (wsX9_init) := ggL_law_X9_init
set_option maxRecDepth 20000 in
theorem ggL_law_X8_grade : GoodIn wsL_law wsX8_grade := goodIn_r _ [81, 82, 83, 84, 2, 85, 13, 86, 87, 88, 89, 90, 91, 29, 92, 51, 93, 94, 95, 96, 675, 676, 677, 678, 679, 680, 707, 708] (by decide +kernel) (by decide +kernel)
set_option maxRecDepth 20000 in
theorem gL_law_X8_grade : GoodIn wsL_law (wsV RL 13 RX8 yX8_grade wsX8_grade) := goodIn_app (goodIn_of _ (by decide +kernel)) ggL_law_X8_grade
set_option maxRecDepth 20000 in
theorem ggL_law_X9_grade : GoodIn wsL_law wsX9_grade := goodIn_r _ [100, 68, 101, 102, 5, 103, 104, 105, 106, 107, 681, 682, 683, 684, 685, 686, 687, 688, 689, 690, 691, 692, 693, 694] (by decide +kernel) (by decide +kernel)
set_option maxRecDepth 20000 in
theorem gL_law_X9_grade : GoodIn wsL_law (wsV RL 17 RX9 yX9_grade wsX9_grade) := goodIn_app (goodIn_of _ (by decide +kernel)) ggL_law_X9_grade
