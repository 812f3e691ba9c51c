set_option maxRecDepth 20000 in
theorem ggL_law_X8_clicks : GoodIn wsL_law wsX8_clicks := goodIn_r _ [640, 27, 82, 83, 84, 2, 85, 13, 169, 170, 171, 172, 112, 113, 114, 115, 116, 117, 118, 29, 119, 53, 173, 174, 175, 55, 176, 133, 574, 575, 576, 26, 577, 578, 579, 580, 581, 582, 583, 584, 585, 586, 587, 588, 589, 126, 127, 128, 124, 590, 190, 191, 192, 63, 591, 592, 593, 594, 595, 596, 597, 598, 599, 600, 44, 46, 641, 642, 643, 644, 645, 646, 647, 90, 91, 92, 51, 648, 649, 650, 651, 652, 653, 654, 655, 656, 657, 658, 675, 676, 677, 678, 679, 680, 707, 708, 709, 710, 711, 700, 701, 702, 703, 704, 705, 706] (by decide +kernel) (by decide +kernel)
set_option maxRecDepth 20000 in
theorem gL_law_X8_clicks : GoodIn wsL_law (wsV RL 87 RX8 yX8_clicks wsX8_clicks) := goodIn_app (goodIn_of _ (by decide +kernel)) ggL_law_X8_clicks
set_option maxRecDepth 20000 in
theorem ggL_law_X9_clicks : GoodIn wsL_law wsX9_clicks := goodIn_r _ [662, 181, 182, 183, 5, 184, 71, 138, 139, 140, 101, 102, 103, 663, 664, 665, 666, 613, 76, 77, 614, 615, 616, 617, 618, 619, 620, 621, 622, 145, 146, 147, 148, 70, 149, 150, 151, 152, 69, 623, 624, 625, 626, 627, 628, 629, 630, 631, 632, 633, 634, 635, 636, 104, 105, 106, 107, 68, 681, 682, 683, 684, 685, 686, 687, 688, 689, 690, 691, 692, 693, 694] (by decide +kernel) (by decide +kernel)
set_option maxRecDepth 20000 in
theorem gL_law_X9_clicks : GoodIn wsL_law (wsV RL 90 RX9 yX9_clicks wsX9_clicks) := goodIn_app (goodIn_of _ (by decide +kernel)) ggL_law_X9_clicks
set_option maxRecDepth 20000 in
theorem ggL_law_X8_prefer : GoodIn wsL_law wsX8_prefer := goodIn_r _ [670, 27, 82, 83, 84, 2, 85, 13, 169, 170, 171, 172, 112, 113, 114, 115, 116, 117, 118, 29, 119, 53, 173, 174, 175, 55, 176, 133, 574, 575, 576, 26, 577, 578, 579, 580, 581, 582, 583, 584, 585, 586, 587, 588, 589, 126, 127, 128, 124, 590, 190, 191, 192, 63, 591, 592, 593, 594, 595, 596, 597, 598, 599, 600, 44, 46, 641, 642, 643, 644, 645, 646, 647, 90, 91, 92, 51, 648, 649, 650, 651, 652, 653, 654, 655, 656, 657, 658, 675, 676, 677, 678, 679, 680, 707, 708, 709, 710, 711, 700, 701, 702, 703, 704, 705, 706] (by decide +kernel) (by decide +kernel)
set_option maxRecDepth 20000 in
theorem gL_law_X8_prefer : GoodIn wsL_law (wsV RL 91 RX8 yX8_prefer wsX8_prefer) := goodIn_app (goodIn_of _ (by decide +kernel)) ggL_law_X8_prefer
set_option maxRecDepth 20000 in
theorem ggL_law_X9_prefer : GoodIn wsL_law wsX9_prefer := goodIn_r _ [674, 181, 182, 183, 5, 184, 71, 138, 139, 140, 101, 102, 103, 663, 664, 665, 666, 613, 76, 77, 614, 615, 616, 617, 618, 619, 620, 621, 622, 145, 146, 147, 148, 70, 149, 150, 151, 152, 69, 623, 624, 625, 626, 627, 628, 629, 630, 631, 632, 633, 634, 635, 636, 104, 105, 106, 107, 68, 681, 682, 683, 684, 685, 686, 687, 688, 689, 690, 691, 692, 693, 694] (by decide +kernel) (by decide +kernel)
set_option maxRecDepth 20000 in
theorem gL_law_X9_prefer : GoodIn wsL_law (wsV RL 94 RX9 yX9_prefer wsX9_prefer) := goodIn_app (goodIn_of _ (by decide +kernel)) ggL_law_X9_prefer
