set_option maxRecDepth 20000 in
theorem ggL_law_X8_rank : GoodIn wsL_law wsX8_rank := goodIn_r _ [111, 112, 113, 114, 2, 115, 82, 83, 84, 85, 13, 116, 117, 118, 29, 119, 53, 86, 87, 88, 120, 121, 122, 55, 123, 124, 63, 125, 126, 127, 128, 129, 130, 131, 132, 133, 675, 676, 677, 678, 679, 680, 707, 708, 709, 710, 711] (by decide +kernel) (by decide +kernel)
set_option maxRecDepth 20000 in
theorem gL_law_X8_rank : GoodIn wsL_law (wsV RL 18 RX8 yX8_rank wsX8_rank) := goodIn_app (goodIn_of _ (by decide +kernel)) ggL_law_X8_rank
set_option maxRecDepth 20000 in
theorem ggL_law_X9_rank : GoodIn wsL_law wsX9_rank := goodIn_r _ [137, 71, 70, 69, 138, 139, 5, 140, 101, 102, 103, 141, 142, 143, 144, 145, 146, 147, 148, 149, 150, 151, 152, 681, 682, 683, 684, 685, 686, 687, 688, 689, 690, 691, 692, 693, 694] (by decide +kernel) (by decide +kernel)
set_option maxRecDepth 20000 in
theorem gL_law_X9_rank : GoodIn wsL_law (wsV RL 21 RX9 yX9_rank wsX9_rank) := goodIn_app (goodIn_of _ (by decide +kernel)) ggL_law_X9_rank
set_option maxRecDepth 20000 in
theorem ggL_law_X8_empty : GoodIn wsL_law wsX8_empty := goodIn_r _ [156, 112, 113, 114, 2, 115, 82, 83, 84, 85, 13, 116, 117, 118, 29, 119, 53, 125, 126, 127, 55, 128, 124, 157, 158, 159, 160, 133, 675, 676, 677, 678, 679, 680, 707, 708, 709, 710, 711] (by decide +kernel) (by decide +kernel)
set_option maxRecDepth 20000 in
theorem gL_law_X8_empty : GoodIn wsL_law (wsV RL 22 RX8 yX8_empty wsX8_empty) := goodIn_app (goodIn_of _ (by decide +kernel)) ggL_law_X8_empty
set_option maxRecDepth 20000 in
theorem ggL_law_X9_empty : GoodIn wsL_law wsX9_empty := goodIn_r _ [164, 71, 70, 138, 139, 5, 140, 101, 102, 103, 681, 682, 683, 684, 685, 686, 687, 688, 689, 690, 691, 692, 693, 694] (by decide +kernel) (by decide +kernel)
set_option maxRecDepth 20000 in
theorem gL_law_X9_empty : GoodIn wsL_law (wsV RL 26 RX9 yX9_empty wsX9_empty) := goodIn_app (goodIn_of _ (by decide +kernel)) ggL_law_X9_empty
