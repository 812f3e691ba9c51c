set_option maxRecDepth 20000 in
theorem ggL_law_X8_pool : GoodIn wsL_law wsX8_pool := goodIn_r _ [556, 82, 83, 84, 2, 85, 13, 233, 234, 235, 557, 558, 559, 29, 560, 51, 561, 562, 563, 564, 53, 565, 545, 546, 55, 547, 548, 121, 122, 123, 124, 63, 675, 676, 677, 678, 679, 680, 707, 708, 709, 710, 711] (by decide +kernel) (by decide +kernel)
set_option maxRecDepth 20000 in
theorem gL_law_X8_pool : GoodIn wsL_law (wsV RL 79 RX8 yX8_pool wsX8_pool) := goodIn_app (goodIn_of _ (by decide +kernel)) ggL_law_X8_pool
set_option maxRecDepth 20000 in
theorem ggL_law_X9_pool : GoodIn wsL_law wsX9_pool := goodIn_r _ [569, 71, 101, 102, 5, 103, 296, 297, 298, 141, 142, 143, 144, 145, 146, 147, 148, 70, 149, 150, 151, 152, 69, 307, 308, 309, 310, 104, 105, 106, 107, 68, 681, 682, 683, 684, 685, 686, 687, 688, 689, 690, 691, 692, 693, 694] (by decide +kernel) (by decide +kernel)
set_option maxRecDepth 20000 in
theorem gL_law_X9_pool : GoodIn wsL_law (wsV RL 82 RX9 yX9_pool wsX9_pool) := goodIn_app (goodIn_of _ (by decide +kernel)) ggL_law_X9_pool
set_option maxRecDepth 20000 in
theorem ggL_law_X8_laid : GoodIn wsL_law wsX8_laid := goodIn_r _ [573, 27, 169, 170, 171, 2, 172, 112, 113, 114, 115, 82, 83, 84, 85, 13, 116, 117, 118, 29, 119, 53, 173, 174, 175, 55, 176, 133, 574, 575, 576, 26, 577, 578, 579, 580, 581, 582, 583, 584, 585, 586, 587, 588, 589, 126, 127, 128, 124, 590, 190, 191, 192, 63, 591, 592, 593, 594, 595, 596, 597, 598, 599, 600, 44, 46, 601, 602, 603, 604, 605, 606, 607, 608, 675, 676, 677, 678, 679, 680, 707, 708, 709, 710, 711, 700, 701, 702, 703, 704, 705, 706] (by decide +kernel) (by decide +kernel)
set_option maxRecDepth 20000 in
theorem gL_law_X8_laid : GoodIn wsL_law (wsV RL 83 RX8 yX8_laid wsX8_laid) := goodIn_app (goodIn_of _ (by decide +kernel)) ggL_law_X8_laid
set_option maxRecDepth 20000 in
theorem ggL_law_X9_laid : GoodIn wsL_law wsX9_laid := goodIn_r _ [612, 613, 76, 77, 181, 182, 183, 5, 184, 71, 138, 139, 140, 101, 102, 103, 614, 615, 616, 617, 618, 619, 620, 621, 622, 145, 146, 147, 148, 70, 149, 150, 151, 152, 69, 623, 624, 625, 626, 627, 628, 629, 630, 631, 632, 633, 634, 635, 636, 681, 682, 683, 684, 685, 686, 687, 688, 689, 690, 691, 692, 693, 694] (by decide +kernel) (by decide +kernel)
set_option maxRecDepth 20000 in
theorem gL_law_X9_laid : GoodIn wsL_law (wsV RL 86 RX9 yX9_laid wsX9_laid) := goodIn_app (goodIn_of _ (by decide +kernel)) ggL_law_X9_laid
