set_option maxRecDepth 20000 in
theorem ggL_law_X8_top : GoodIn wsL_law wsX8_top := goodIn_r _ [366, 17, 367, 368, 369, 16, 370, 258, 675, 676, 677, 678, 679, 680, 695, 696] (by decide +kernel) (by decide +kernel)
set_option maxRecDepth 20000 in
theorem gL_law_X8_top : GoodIn wsL_law (wsV RL 44 RX8 yX8_top wsX8_top) := goodIn_app (goodIn_of _ (by decide +kernel)) ggL_law_X8_top
set_option maxRecDepth 20000 in
theorem ggL_law_X9_top : GoodIn wsL_law wsX9_top := goodIn_r _ [374, 362, 681, 682, 683, 684, 685, 686, 687, 688, 689, 690, 691, 692, 693, 694] (by decide +kernel) (by decide +kernel)
set_option maxRecDepth 20000 in
theorem gL_law_X9_top : GoodIn wsL_law (wsV RL 48 RX9 yX9_top wsX9_top) := goodIn_app (goodIn_of _ (by decide +kernel)) ggL_law_X9_top
set_option maxRecDepth 20000 in
theorem ggL_law_X8_bottom : GoodIn wsL_law wsX8_bottom := goodIn_r _ [378, 17, 379, 380, 381, 16, 382, 33, 675, 676, 677, 678, 679, 680, 695, 696] (by decide +kernel) (by decide +kernel)
set_option maxRecDepth 20000 in
theorem gL_law_X8_bottom : GoodIn wsL_law (wsV RL 49 RX8 yX8_bottom wsX8_bottom) := goodIn_app (goodIn_of _ (by decide +kernel)) ggL_law_X8_bottom
set_option maxRecDepth 20000 in
theorem ggL_law_X9_bottom : GoodIn wsL_law wsX9_bottom := goodIn_r _ [386, 72, 681, 682, 683, 684, 685, 686, 687, 688, 689, 690, 691, 692, 693, 694] (by decide +kernel) (by decide +kernel)
set_option maxRecDepth 20000 in
theorem gL_law_X9_bottom : GoodIn wsL_law (wsV RL 52 RX9 yX9_bottom wsX9_bottom) := goodIn_app (goodIn_of _ (by decide +kernel)) ggL_law_X9_bottom
