set_option maxRecDepth 20000 in
theorem ggL_law_X8_likeness : GoodIn wsL_law wsX8_likeness := goodIn_r _ [520, 17, 169, 170, 171, 2, 172, 112, 113, 114, 115, 82, 83, 84, 85, 13, 116, 117, 118, 29, 119, 53, 173, 174, 175, 55, 176, 133, 521, 522, 523, 524, 525, 126, 127, 128, 124, 526, 190, 191, 192, 63, 527, 121, 122, 123, 528, 255, 256, 16, 257, 258, 33, 259, 260, 261, 262, 243, 263, 264, 265, 266, 675, 676, 677, 678, 679, 680, 707, 708, 709, 710, 711, 695, 696] (by decide +kernel) (by decide +kernel)
set_option maxRecDepth 20000 in
theorem gL_law_X8_likeness : GoodIn wsL_law (wsV RL 71 RX8 yX8_likeness wsX8_likeness) := goodIn_app (goodIn_of _ (by decide +kernel)) ggL_law_X8_likeness
set_option maxRecDepth 20000 in
theorem ggL_law_X9_likeness : GoodIn wsL_law wsX9_likeness := goodIn_r _ [532, 413, 181, 182, 183, 5, 184, 71, 138, 139, 140, 101, 102, 103, 145, 146, 147, 148, 70, 141, 142, 143, 144, 149, 150, 151, 152, 69, 315, 316, 317, 318, 319, 73, 320, 321, 322, 358, 359, 360, 361, 362, 72, 681, 682, 683, 684, 685, 686, 687, 688, 689, 690, 691, 692, 693, 694] (by decide +kernel) (by decide +kernel)
set_option maxRecDepth 20000 in
theorem gL_law_X9_likeness : GoodIn wsL_law (wsV RL 74 RX9 yX9_likeness wsX9_likeness) := goodIn_app (goodIn_of _ (by decide +kernel)) ggL_law_X9_likeness
set_option maxRecDepth 20000 in
theorem ggL_law_X8_overlap : GoodIn wsL_law wsX8_overlap := goodIn_r _ [536, 17, 169, 170, 171, 2, 172, 112, 113, 114, 115, 82, 83, 84, 85, 13, 116, 117, 118, 29, 119, 53, 173, 174, 175, 55, 176, 133, 233, 234, 235, 537, 538, 523, 539, 540, 541, 542, 543, 525, 126, 127, 128, 124, 526, 190, 191, 192, 63, 544, 545, 546, 547, 548, 121, 122, 123, 528, 255, 256, 16, 257, 258, 33, 259, 260, 261, 262, 243, 263, 264, 265, 266, 675, 676, 677, 678, 679, 680, 707, 708, 709, 710, 711, 695, 696] (by decide +kernel) (by decide +kernel)
set_option maxRecDepth 20000 in
theorem gL_law_X8_overlap : GoodIn wsL_law (wsV RL 75 RX8 yX8_overlap wsX8_overlap) := goodIn_app (goodIn_of _ (by decide +kernel)) ggL_law_X8_overlap
set_option maxRecDepth 20000 in
theorem ggL_law_X9_overlap : GoodIn wsL_law wsX9_overlap := goodIn_r _ [552, 319, 73, 181, 182, 183, 5, 184, 71, 138, 139, 140, 101, 102, 103, 296, 297, 298, 307, 308, 309, 310, 145, 146, 147, 148, 70, 149, 150, 151, 152, 69, 141, 142, 143, 144, 315, 316, 317, 318, 320, 321, 322, 327, 328, 329, 330, 331, 332, 333, 334, 358, 359, 360, 361, 362, 72, 681, 682, 683, 684, 685, 686, 687, 688, 689, 690, 691, 692, 693, 694] (by decide +kernel) (by decide +kernel)
set_option maxRecDepth 20000 in
theorem gL_law_X9_overlap : GoodIn wsL_law (wsV RL 78 RX9 yX9_overlap wsX9_overlap) := goodIn_app (goodIn_of _ (by decide +kernel)) ggL_law_X9_overlap
