set_option maxRecDepth 20000 in
theorem ggL_law_X8_count : GoodIn wsL_law wsX8_count := goodIn_r _ [200, 82, 83, 84, 2, 85, 13, 201, 202, 203, 29, 204, 51, 205, 206, 207, 208, 209, 210, 211, 212, 53, 213, 174, 175, 55, 176, 133, 675, 676, 677, 678, 679, 680, 707, 708, 709, 710, 711] (by decide +kernel) (by decide +kernel)
set_option maxRecDepth 20000 in
theorem gL_law_X8_count : GoodIn wsL_law (wsV RL 35 RX8 yX8_count wsX8_count) := goodIn_app (goodIn_of _ (by decide +kernel)) ggL_law_X8_count
set_option maxRecDepth 20000 in
theorem ggL_law_X9_count : GoodIn wsL_law wsX9_count := goodIn_r _ [217, 71, 101, 102, 5, 103, 218, 219, 220, 221, 222, 223, 224, 225, 104, 105, 106, 107, 68, 681, 682, 683, 684, 685, 686, 687, 688, 689, 690, 691, 692, 693, 694] (by decide +kernel) (by decide +kernel)
set_option maxRecDepth 20000 in
theorem gL_law_X9_count : GoodIn wsL_law (wsV RL 38 RX9 yX9_count wsX9_count) := goodIn_app (goodIn_of _ (by decide +kernel)) ggL_law_X9_count
set_option maxRecDepth 20000 in
theorem ggL_law_X8_measure : GoodIn wsL_law wsX8_measure := goodIn_r _ [229, 17, 82, 83, 84, 2, 85, 13, 169, 170, 171, 172, 112, 113, 114, 115, 116, 117, 118, 29, 119, 53, 173, 174, 175, 55, 176, 133, 230, 231, 232, 233, 234, 235, 236, 237, 238, 239, 240, 241, 242, 243, 244, 245, 246, 247, 248, 190, 191, 192, 124, 63, 249, 250, 251, 252, 253, 90, 91, 92, 51, 254, 255, 256, 16, 257, 258, 33, 259, 260, 261, 262, 263, 264, 265, 266, 267, 202, 203, 204, 268, 269, 270, 271, 272, 273, 274, 275, 276, 277, 278, 279, 280, 281, 282, 283, 284, 206, 207, 208, 285, 286, 287, 288, 126, 127, 128, 289, 290, 291, 675, 676, 677, 678, 679, 680, 707, 708, 709, 710, 711, 695, 696] (by decide +kernel) (by decide +kernel)
set_option maxRecDepth 20000 in
theorem gL_law_X8_measure : GoodIn wsL_law (wsV RL 39 RX8 yX8_measure wsX8_measure) := goodIn_app (goodIn_of _ (by decide +kernel)) ggL_law_X8_measure
set_option maxRecDepth 20000 in
theorem ggL_law_X9_measure : GoodIn wsL_law wsX9_measure := goodIn_r _ [295, 181, 182, 183, 5, 184, 71, 138, 139, 140, 101, 102, 103, 296, 297, 298, 299, 300, 301, 302, 303, 304, 305, 306, 307, 308, 309, 310, 145, 146, 147, 148, 70, 149, 150, 151, 152, 69, 311, 312, 313, 314, 104, 105, 106, 107, 68, 315, 316, 317, 318, 319, 73, 320, 321, 322, 218, 219, 220, 221, 222, 223, 224, 225, 323, 324, 325, 326, 327, 328, 329, 330, 331, 332, 333, 334, 335, 336, 337, 338, 339, 340, 341, 342, 343, 344, 345, 346, 347, 348, 349, 350, 351, 352, 353, 354, 355, 356, 357, 358, 359, 360, 361, 362, 72, 681, 682, 683, 684, 685, 686, 687, 688, 689, 690, 691, 692, 693, 694] (by decide +kernel) (by decide +kernel)
set_option maxRecDepth 20000 in
theorem gL_law_X9_measure : GoodIn wsL_law (wsV RL 43 RX9 yX9_measure wsX9_measure) := goodIn_app (goodIn_of _ (by decide +kernel)) ggL_law_X9_measure
