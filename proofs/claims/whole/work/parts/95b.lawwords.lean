set_option maxRecDepth 20000 in
theorem ggL_law_X8_init : GoodIn wsL_law wsX8_init := goodIn_r _ [8, 9, 10, 11, 12, 13, 14, 15, 16, 17, 18, 19, 20, 21, 22, 23, 24, 25, 26, 27, 28, 29, 30, 31, 32, 33, 34, 35, 36, 37, 38, 39, 40, 41, 42, 43, 44, 45, 46, 47, 48, 49, 50, 51, 52, 53, 54, 55, 56, 57, 58, 59, 60, 61, 62, 63, 675, 676, 677, 678, 679, 680, 695, 696, 697, 698, 699, 700, 701, 702, 703, 704, 705, 706, 707, 708, 709, 710, 711] (by decide +kernel) (by decide +kernel)
set_option maxRecDepth 20000 in
theorem gL_law_X8_init : GoodIn wsL_law (wsX8_init) := ggL_law_X8_init
set_option maxRecDepth 20000 in
theorem ggL_law_X9_init : GoodIn wsL_law wsX9_init := goodIn_r _ [66, 67, 10, 11, 43, 68, 69, 70, 45, 71, 72, 73, 37, 74, 75, 76, 77, 681, 682, 683, 684, 685, 686, 687, 688, 689, 690, 691, 692, 693, 694] (by decide +kernel) (by decide +kernel)
set_option maxRecDepth 20000 in
theorem gL_law_X9_init : GoodIn wsL_law (wsX9_init) := ggL_law_X9_init
set_option maxRecDepth 20000 in
theorem ggL_law_X8_grade : GoodIn wsL_law wsX8_grade := goodIn_r _ [81, 82, 83, 84, 2, 85, 13, 86, 87, 88, 89, 90, 91, 29, 92, 51, 93, 94, 95, 96, 675, 676, 677, 678, 679, 680, 707, 708] (by decide +kernel) (by decide +kernel)
set_option maxRecDepth 20000 in
theorem gL_law_X8_grade : GoodIn wsL_law (wsV RL 13 RX8 yX8_grade wsX8_grade) := goodIn_app (goodIn_of _ (by decide +kernel)) ggL_law_X8_grade
set_option maxRecDepth 20000 in
theorem ggL_law_X9_grade : GoodIn wsL_law wsX9_grade := goodIn_r _ [100, 68, 101, 102, 5, 103, 104, 105, 106, 107, 681, 682, 683, 684, 685, 686, 687, 688, 689, 690, 691, 692, 693, 694] (by decide +kernel) (by decide +kernel)
set_option maxRecDepth 20000 in
theorem gL_law_X9_grade : GoodIn wsL_law (wsV RL 17 RX9 yX9_grade wsX9_grade) := goodIn_app (goodIn_of _ (by decide +kernel)) ggL_law_X9_grade
set_option maxRecDepth 20000 in
theorem ggL_law_X8_rank : GoodIn wsL_law wsX8_rank := goodIn_r _ [111, 112, 113, 114, 2, 115, 82, 83, 84, 85, 13, 116, 117, 118, 29, 119, 53, 86, 87, 88, 120, 121, 122, 55, 123, 124, 63, 125, 126, 127, 128, 129, 130, 131, 132, 133, 675, 676, 677, 678, 679, 680, 707, 708, 709, 710, 711] (by decide +kernel) (by decide +kernel)
set_option maxRecDepth 20000 in
theorem gL_law_X8_rank : GoodIn wsL_law (wsV RL 18 RX8 yX8_rank wsX8_rank) := goodIn_app (goodIn_of _ (by decide +kernel)) ggL_law_X8_rank
set_option maxRecDepth 20000 in
theorem ggL_law_X9_rank : GoodIn wsL_law wsX9_rank := goodIn_r _ [137, 71, 70, 69, 138, 139, 5, 140, 101, 102, 103, 141, 142, 143, 144, 145, 146, 147, 148, 149, 150, 151, 152, 681, 682, 683, 684, 685, 686, 687, 688, 689, 690, 691, 692, 693, 694] (by decide +kernel) (by decide +kernel)
set_option maxRecDepth 20000 in
theorem gL_law_X9_rank : GoodIn wsL_law (wsV RL 21 RX9 yX9_rank wsX9_rank) := goodIn_app (goodIn_of _ (by decide +kernel)) ggL_law_X9_rank
set_option maxRecDepth 20000 in
theorem ggL_law_X8_empty : GoodIn wsL_law wsX8_empty := goodIn_r _ [156, 112, 113, 114, 2, 115, 82, 83, 84, 85, 13, 116, 117, 118, 29, 119, 53, 125, 126, 127, 55, 128, 124, 157, 158, 159, 160, 133, 675, 676, 677, 678, 679, 680, 707, 708, 709, 710, 711] (by decide +kernel) (by decide +kernel)
set_option maxRecDepth 20000 in
theorem gL_law_X8_empty : GoodIn wsL_law (wsV RL 22 RX8 yX8_empty wsX8_empty) := goodIn_app (goodIn_of _ (by decide +kernel)) ggL_law_X8_empty
set_option maxRecDepth 20000 in
theorem ggL_law_X9_empty : GoodIn wsL_law wsX9_empty := goodIn_r _ [164, 71, 70, 138, 139, 5, 140, 101, 102, 103, 681, 682, 683, 684, 685, 686, 687, 688, 689, 690, 691, 692, 693, 694] (by decide +kernel) (by decide +kernel)
set_option maxRecDepth 20000 in
theorem gL_law_X9_empty : GoodIn wsL_law (wsV RL 26 RX9 yX9_empty wsX9_empty) := goodIn_app (goodIn_of _ (by decide +kernel)) ggL_law_X9_empty
set_option maxRecDepth 20000 in
theorem ggL_law_X8_drop : GoodIn wsL_law wsX8_drop := goodIn_r _ [168, 169, 170, 171, 2, 172, 112, 113, 114, 115, 82, 83, 84, 85, 13, 116, 117, 118, 29, 119, 53, 173, 174, 175, 55, 176, 133, 157, 158, 159, 160, 124, 675, 676, 677, 678, 679, 680, 707, 708, 709, 710, 711] (by decide +kernel) (by decide +kernel)
set_option maxRecDepth 20000 in
theorem gL_law_X8_drop : GoodIn wsL_law (wsV RL 27 RX8 yX8_drop wsX8_drop) := goodIn_app (goodIn_of _ (by decide +kernel)) ggL_law_X8_drop
set_option maxRecDepth 20000 in
theorem ggL_law_X9_drop : GoodIn wsL_law wsX9_drop := goodIn_r _ [180, 71, 70, 181, 182, 183, 5, 184, 138, 139, 140, 101, 102, 103, 681, 682, 683, 684, 685, 686, 687, 688, 689, 690, 691, 692, 693, 694] (by decide +kernel) (by decide +kernel)
set_option maxRecDepth 20000 in
theorem gL_law_X9_drop : GoodIn wsL_law (wsV RL 30 RX9 yX9_drop wsX9_drop) := goodIn_app (goodIn_of _ (by decide +kernel)) ggL_law_X9_drop
set_option maxRecDepth 20000 in
theorem ggL_law_X8_at : GoodIn wsL_law wsX8_at := goodIn_r _ [188, 169, 170, 171, 2, 172, 112, 113, 114, 115, 82, 83, 84, 85, 13, 116, 117, 118, 29, 119, 53, 173, 174, 175, 55, 176, 133, 189, 190, 191, 192, 124, 63, 675, 676, 677, 678, 679, 680, 707, 708, 709, 710, 711] (by decide +kernel) (by decide +kernel)
set_option maxRecDepth 20000 in
theorem gL_law_X8_at : GoodIn wsL_law (wsV RL 31 RX8 yX8_at wsX8_at) := goodIn_app (goodIn_of _ (by decide +kernel)) ggL_law_X8_at
set_option maxRecDepth 20000 in
theorem ggL_law_X9_at : GoodIn wsL_law wsX9_at := goodIn_r _ [196, 181, 182, 183, 5, 184, 71, 138, 139, 140, 101, 102, 103, 145, 146, 147, 148, 70, 149, 150, 151, 152, 69, 681, 682, 683, 684, 685, 686, 687, 688, 689, 690, 691, 692, 693, 694] (by decide +kernel) (by decide +kernel)
set_option maxRecDepth 20000 in
theorem gL_law_X9_at : GoodIn wsL_law (wsV RL 34 RX9 yX9_at wsX9_at) := goodIn_app (goodIn_of _ (by decide +kernel)) ggL_law_X9_at
set_option maxRecDepth 20000 in
theorem ggL_law_X8_count : GoodIn wsL_law wsX8_count := goodIn_r _ [200, 82, 83, 84, 2, 85, 13, 201, 202, 203, 29, 204, 51, 205, 206, 207, 208, 209, 210, 211, 212, 53, 213, 174, 175, 55, 176, 133, 675, 676, 677, 678, 679, 680, 707, 708, 709, 710, 711] (by decide +kernel) (by decide +kernel)
set_option maxRecDepth 20000 in
theorem gL_law_X8_count : GoodIn wsL_law (wsV RL 35 RX8 yX8_count wsX8_count) := goodIn_app (goodIn_of _ (by decide +kernel)) ggL_law_X8_count
set_option maxRecDepth 20000 in
theorem ggL_law_X9_count : GoodIn wsL_law wsX9_count := goodIn_r _ [217, 71, 101, 102, 5, 103, 218, 219, 220, 221, 222, 223, 224, 225, 104, 105, 106, 107, 68, 681, 682, 683, 684, 685, 686, 687, 688, 689, 690, 691, 692, 693, 694] (by decide +kernel) (by decide +kernel)
set_option maxRecDepth 20000 in
theorem gL_law_X9_count : GoodIn wsL_law (wsV RL 38 RX9 yX9_count wsX9_count) := goodIn_app (goodIn_of _ (by decide +kernel)) ggL_law_X9_count
set_option maxRecDepth 20000 in
theorem ggL_law_X8_measure : GoodIn wsL_law wsX8_measure := goodIn_r _ [229, 17, 82, 83, 84, 2, 85, 13, 169, 170, 171, 172, 112, 113, 114, 115, 116, 117, 118, 29, 119, 53, 173, 174, 175, 55, 176, 133, 230, 231, 232, 233, 234, 235, 236, 237, 238, 239, 240, 241, 242, 243, 244, 245, 246, 247, 248, 190, 191, 192, 124, 63, 249, 250, 251, 252, 253, 90, 91, 92, 51, 254, 255, 256, 16, 257, 258, 33, 259, 260, 261, 262, 263, 264, 265, 266, 267, 202, 203, 204, 268, 269, 270, 271, 272, 273, 274, 275, 276, 277, 278, 279, 280, 281, 282, 283, 284, 206, 207, 208, 285, 286, 287, 288, 126, 127, 128, 289, 290, 291, 675, 676, 677, 678, 679, 680, 707, 708, 709, 710, 711, 695, 696] (by decide +kernel) (by decide +kernel)
set_option maxRecDepth 20000 in
theorem gL_law_X8_measure : GoodIn wsL_law (wsV RL 39 RX8 yX8_measure wsX8_measure) := goodIn_app (goodIn_of _ (by decide +kernel)) ggL_law_X8_measure
set_option maxRecDepth 20000 in
theorem ggL_law_X9_measure : GoodIn wsL_law wsX9_measure := goodIn_r _ [295, 181, 182, 183, 5, 184, 71, 138, 139, 140, 101, 102, 103, 296, 297, 298, 299, 300, 301, 302, 303, 304, 305, 306, 307, 308, 309, 310, 145, 146, 147, 148, 70, 149, 150, 151, 152, 69, 311, 312, 313, 314, 104, 105, 106, 107, 68, 315, 316, 317, 318, 319, 73, 320, 321, 322, 218, 219, 220, 221, 222, 223, 224, 225, 323, 324, 325, 326, 327, 328, 329, 330, 331, 332, 333, 334, 335, 336, 337, 338, 339, 340, 341, 342, 343, 344, 345, 346, 347, 348, 349, 350, 351, 352, 353, 354, 355, 356, 357, 358, 359, 360, 361, 362, 72, 681, 682, 683, 684, 685, 686, 687, 688, 689, 690, 691, 692, 693, 694] (by decide +kernel) (by decide +kernel)
set_option maxRecDepth 20000 in
theorem gL_law_X9_measure : GoodIn wsL_law (wsV RL 43 RX9 yX9_measure wsX9_measure) := goodIn_app (goodIn_of _ (by decide +kernel)) ggL_law_X9_measure
set_option maxRecDepth 20000 in
theorem ggL_law_X8_top : GoodIn wsL_law wsX8_top := goodIn_r _ [366, 17, 367, 368, 369, 16, 370, 258, 675, 676, 677, 678, 679, 680, 695, 696] (by decide +kernel) (by decide +kernel)
set_option maxRecDepth 20000 in
theorem gL_law_X8_top : GoodIn wsL_law (wsV RL 44 RX8 yX8_top wsX8_top) := goodIn_app (goodIn_of _ (by decide +kernel)) ggL_law_X8_top
set_option maxRecDepth 20000 in
theorem ggL_law_X9_top : GoodIn wsL_law wsX9_top := goodIn_r _ [374, 362, 681, 682, 683, 684, 685, 686, 687, 688, 689, 690, 691, 692, 693, 694] (by decide +kernel) (by decide +kernel)
set_option maxRecDepth 20000 in
theorem gL_law_X9_top : GoodIn wsL_law (wsV RL 48 RX9 yX9_top wsX9_top) := goodIn_app (goodIn_of _ (by decide +kernel)) ggL_law_X9_top
set_option maxRecDepth 20000 in
theorem ggL_law_X8_bottom : GoodIn wsL_law wsX8_bottom := goodIn_r _ [378, 17, 379, 380, 381, 16, 382, 33, 675, 676, 677, 678, 679, 680, 695, 696] (by decide +kernel) (by decide +kernel)
set_option maxRecDepth 20000 in
theorem gL_law_X8_bottom : GoodIn wsL_law (wsV RL 49 RX8 yX8_bottom wsX8_bottom) := goodIn_app (goodIn_of _ (by decide +kernel)) ggL_law_X8_bottom
set_option maxRecDepth 20000 in
theorem ggL_law_X9_bottom : GoodIn wsL_law wsX9_bottom := goodIn_r _ [386, 72, 681, 682, 683, 684, 685, 686, 687, 688, 689, 690, 691, 692, 693, 694] (by decide +kernel) (by decide +kernel)
set_option maxRecDepth 20000 in
theorem gL_law_X9_bottom : GoodIn wsL_law (wsV RL 52 RX9 yX9_bottom wsX9_bottom) := goodIn_app (goodIn_of _ (by decide +kernel)) ggL_law_X9_bottom
set_option maxRecDepth 20000 in
theorem ggL_law_X8_gain : GoodIn wsL_law wsX8_gain := goodIn_r _ [390, 391, 392, 82, 83, 84, 2, 85, 13, 169, 170, 171, 172, 112, 113, 114, 115, 116, 117, 118, 29, 119, 53, 173, 174, 175, 55, 176, 133, 233, 234, 235, 393, 394, 395, 396, 397, 190, 191, 192, 124, 63, 398, 90, 91, 92, 51, 399, 279, 238, 280, 400, 401, 402, 403, 404, 405, 406, 407, 408, 675, 676, 677, 678, 679, 680, 707, 708, 709, 710, 711] (by decide +kernel) (by decide +kernel)
set_option maxRecDepth 20000 in
theorem gL_law_X8_gain : GoodIn wsL_law (wsV RL 53 RX8 yX8_gain wsX8_gain) := goodIn_app (goodIn_of _ (by decide +kernel)) ggL_law_X8_gain
set_option maxRecDepth 20000 in
theorem ggL_law_X9_gain : GoodIn wsL_law wsX9_gain := goodIn_r _ [412, 413, 414, 181, 182, 183, 5, 184, 71, 138, 139, 140, 101, 102, 103, 296, 297, 298, 307, 308, 309, 310, 145, 146, 147, 148, 70, 149, 150, 151, 152, 69, 311, 312, 313, 314, 104, 105, 106, 107, 68, 343, 344, 345, 415, 416, 417, 418, 681, 682, 683, 684, 685, 686, 687, 688, 689, 690, 691, 692, 693, 694] (by decide +kernel) (by decide +kernel)
set_option maxRecDepth 20000 in
theorem gL_law_X9_gain : GoodIn wsL_law (wsV RL 57 RX9 yX9_gain wsX9_gain) := goodIn_app (goodIn_of _ (by decide +kernel)) ggL_law_X9_gain
set_option maxRecDepth 20000 in
theorem ggL_law_X8_mean : GoodIn wsL_law wsX8_mean := goodIn_r _ [422, 17, 19, 423, 424, 2, 425, 426, 427, 428, 230, 231, 232, 233, 234, 235, 429, 430, 431, 432, 18, 433, 255, 256, 16, 257, 258, 33, 259, 260, 261, 262, 243, 263, 264, 265, 266, 82, 83, 84, 85, 13, 434, 435, 436, 437, 201, 202, 203, 29, 204, 51, 169, 170, 171, 172, 112, 113, 114, 115, 116, 117, 118, 119, 53, 173, 174, 175, 55, 176, 133, 236, 237, 238, 239, 240, 241, 242, 244, 245, 246, 247, 248, 190, 191, 192, 124, 63, 249, 250, 251, 252, 253, 90, 91, 92, 254, 267, 268, 269, 270, 271, 272, 273, 274, 275, 276, 277, 278, 279, 280, 281, 282, 283, 284, 206, 207, 208, 285, 286, 287, 288, 126, 127, 128, 289, 290, 291, 438, 439, 440, 441, 442, 443, 444, 445, 367, 368, 369, 370, 379, 380, 381, 382, 675, 676, 677, 678, 679, 680, 695, 696, 707, 708, 709, 710, 711] (by decide +kernel) (by decide +kernel)
set_option maxRecDepth 20000 in
theorem gL_law_X8_mean : GoodIn wsL_law (wsV RL 58 RX8 yX8_mean wsX8_mean) := goodIn_app (goodIn_of _ (by decide +kernel)) ggL_law_X8_mean
set_option maxRecDepth 20000 in
theorem ggL_law_X9_mean : GoodIn wsL_law wsX9_mean := goodIn_r _ [449, 319, 73, 138, 139, 5, 140, 450, 451, 452, 453, 296, 297, 298, 454, 455, 456, 457, 71, 218, 219, 220, 221, 222, 223, 224, 225, 104, 105, 106, 107, 68, 299, 300, 301, 302, 303, 304, 305, 306, 307, 308, 309, 310, 145, 146, 147, 148, 70, 149, 150, 151, 152, 69, 311, 312, 313, 314, 315, 316, 317, 318, 320, 321, 322, 323, 324, 325, 326, 327, 328, 329, 330, 331, 332, 333, 334, 335, 336, 337, 338, 339, 340, 341, 342, 343, 344, 345, 346, 347, 348, 349, 350, 351, 352, 353, 354, 355, 356, 357, 358, 359, 360, 361, 362, 72, 681, 682, 683, 684, 685, 686, 687, 688, 689, 690, 691, 692, 693, 694] (by decide +kernel) (by decide +kernel)
set_option maxRecDepth 20000 in
theorem gL_law_X9_mean : GoodIn wsL_law (wsV RL 61 RX9 yX9_mean wsX9_mean) := goodIn_app (goodIn_of _ (by decide +kernel)) ggL_law_X9_mean
set_option maxRecDepth 20000 in
theorem ggL_law_X8_odds : GoodIn wsL_law wsX8_odds := goodIn_r _ [461, 17, 23, 462, 463, 464, 2, 465, 19, 18, 391, 423, 424, 425, 426, 427, 428, 230, 231, 232, 233, 234, 235, 466, 467, 468, 22, 469, 39, 470, 82, 83, 84, 85, 13, 434, 435, 436, 437, 201, 202, 203, 29, 204, 51, 169, 170, 171, 172, 112, 113, 114, 115, 116, 117, 118, 119, 53, 173, 174, 175, 55, 176, 133, 236, 237, 238, 239, 240, 241, 242, 243, 244, 245, 246, 247, 248, 190, 191, 192, 124, 63, 249, 250, 251, 252, 253, 90, 91, 92, 254, 255, 256, 16, 257, 258, 33, 259, 260, 261, 262, 263, 264, 265, 266, 267, 268, 269, 270, 271, 272, 273, 274, 275, 276, 277, 278, 279, 280, 281, 282, 283, 284, 206, 207, 208, 285, 286, 287, 288, 126, 127, 128, 289, 290, 291, 438, 439, 440, 441, 442, 443, 444, 445, 471, 472, 473, 474, 38, 475, 380, 381, 382, 476, 368, 369, 370, 477, 478, 479, 480, 481, 482, 483, 484, 485, 486, 487, 488, 433, 675, 676, 677, 678, 679, 680, 697, 698, 699, 707, 708, 709, 710, 711, 695, 696] (by decide +kernel) (by decide +kernel)
set_option maxRecDepth 20000 in
theorem gL_law_X8_odds : GoodIn wsL_law (wsV RL 62 RX8 yX8_odds wsX8_odds) := goodIn_app (goodIn_of _ (by decide +kernel)) ggL_law_X8_odds
set_option maxRecDepth 20000 in
theorem ggL_law_X9_odds : GoodIn wsL_law wsX9_odds := goodIn_r _ [492, 75, 74, 493, 494, 495, 5, 496, 138, 139, 140, 450, 451, 452, 453, 296, 297, 298, 497, 498, 499, 500, 319, 73, 454, 455, 456, 457, 71, 218, 219, 220, 221, 222, 223, 224, 225, 104, 105, 106, 107, 68, 299, 300, 301, 302, 303, 304, 305, 306, 307, 308, 309, 310, 145, 146, 147, 148, 70, 149, 150, 151, 152, 69, 311, 312, 313, 314, 315, 316, 317, 318, 320, 321, 322, 323, 324, 325, 326, 327, 328, 329, 330, 331, 332, 333, 334, 335, 336, 337, 338, 339, 340, 341, 342, 343, 344, 345, 346, 347, 348, 349, 350, 351, 352, 353, 354, 355, 356, 357, 358, 359, 360, 361, 362, 72, 681, 682, 683, 684, 685, 686, 687, 688, 689, 690, 691, 692, 693, 694] (by decide +kernel) (by decide +kernel)
set_option maxRecDepth 20000 in
theorem gL_law_X9_odds : GoodIn wsL_law (wsV RL 65 RX9 yX9_odds wsX9_odds) := goodIn_app (goodIn_of _ (by decide +kernel)) ggL_law_X9_odds
set_option maxRecDepth 20000 in
theorem ggL_law_X8_wins : GoodIn wsL_law wsX8_wins := goodIn_r _ [504, 23, 423, 424, 2, 425, 462, 463, 464, 465, 19, 18, 391, 426, 427, 428, 230, 231, 232, 233, 234, 235, 466, 467, 468, 22, 469, 39, 470, 82, 83, 84, 85, 13, 434, 435, 436, 437, 201, 202, 203, 29, 204, 51, 169, 170, 171, 172, 112, 113, 114, 115, 116, 117, 118, 119, 53, 173, 174, 175, 55, 176, 133, 236, 237, 238, 239, 240, 241, 242, 243, 244, 245, 246, 247, 248, 190, 191, 192, 124, 63, 249, 250, 251, 252, 253, 90, 91, 92, 254, 255, 256, 16, 257, 258, 33, 259, 260, 261, 262, 263, 264, 265, 266, 267, 268, 269, 270, 271, 272, 273, 274, 275, 276, 277, 278, 279, 280, 281, 282, 283, 284, 206, 207, 208, 285, 286, 287, 288, 126, 127, 128, 289, 290, 291, 438, 439, 440, 441, 442, 443, 444, 445, 471, 472, 473, 474, 38, 475, 380, 381, 382, 476, 368, 369, 370, 477, 478, 479, 480, 505, 506, 507, 508, 509, 510, 511, 512, 675, 676, 677, 678, 679, 680, 697, 698, 699, 707, 708, 709, 710, 711, 695, 696] (by decide +kernel) (by decide +kernel)
set_option maxRecDepth 20000 in
theorem gL_law_X8_wins : GoodIn wsL_law (wsV RL 66 RX8 yX8_wins wsX8_wins) := goodIn_app (goodIn_of _ (by decide +kernel)) ggL_law_X8_wins
set_option maxRecDepth 20000 in
theorem ggL_law_X9_wins : GoodIn wsL_law wsX9_wins := goodIn_r _ [516, 74, 493, 494, 495, 5, 496, 138, 139, 140, 450, 451, 452, 453, 296, 297, 298, 497, 498, 499, 500, 319, 73, 75, 454, 455, 456, 457, 71, 218, 219, 220, 221, 222, 223, 224, 225, 104, 105, 106, 107, 68, 299, 300, 301, 302, 303, 304, 305, 306, 307, 308, 309, 310, 145, 146, 147, 148, 70, 149, 150, 151, 152, 69, 311, 312, 313, 314, 315, 316, 317, 318, 320, 321, 322, 323, 324, 325, 326, 327, 328, 329, 330, 331, 332, 333, 334, 335, 336, 337, 338, 339, 340, 341, 342, 343, 344, 345, 346, 347, 348, 349, 350, 351, 352, 353, 354, 355, 356, 357, 681, 682, 683, 684, 685, 686, 687, 688, 689, 690, 691, 692, 693, 694] (by decide +kernel) (by decide +kernel)
set_option maxRecDepth 20000 in
theorem gL_law_X9_wins : GoodIn wsL_law (wsV RL 70 RX9 yX9_wins wsX9_wins) := goodIn_app (goodIn_of _ (by decide +kernel)) ggL_law_X9_wins
set_option maxRecDepth 20000 in
theorem ggL_law_X8_likeness : GoodIn wsL_law wsX8_likeness := goodIn_r _ [520, 17, 169, 170, 171, 2, 172, 112, 113, 114, 115, 82, 83, 84, 85, 13, 116, 117, 118, 29, 119, 53, 173, 174, 175, 55, 176, 133, 521, 522, 523, 524, 525, 126, 127, 128, 124, 526, 190, 191, 192, 63, 527, 121, 122, 123, 528, 255, 256, 16, 257, 258, 33, 259, 260, 261, 262, 243, 263, 264, 265, 266, 675, 676, 677, 678, 679, 680, 707, 708, 709, 710, 711, 695, 696] (by decide +kernel) (by decide +kernel)
set_option maxRecDepth 20000 in
theorem gL_law_X8_likeness : GoodIn wsL_law (wsV RL 71 RX8 yX8_likeness wsX8_likeness) := goodIn_app (goodIn_of _ (by decide +kernel)) ggL_law_X8_likeness
set_option maxRecDepth 20000 in
theorem ggL_law_X9_likeness : GoodIn wsL_law wsX9_likeness := goodIn_r _ [532, 413, 181, 182, 183, 5, 184, 71, 138, 139, 140, 101, 102, 103, 145, 146, 147, 148, 70, 141, 142, 143, 144, 149, 150, 151, 152, 69, 315, 316, 317, 318, 319, 73, 320, 321, 322, 358, 359, 360, 361, 362, 72, 681, 682, 683, 684, 685, 686, 687, 688, 689, 690, 691, 692, 693, 694] (by decide +kernel) (by decide +kernel)
set_option maxRecDepth 20000 in
theorem gL_law_X9_likeness : GoodIn wsL_law (wsV RL 74 RX9 yX9_likeness wsX9_likeness) := goodIn_app (goodIn_of _ (by decide +kernel)) ggL_law_X9_likeness
set_option maxRecDepth 20000 in
theorem ggL_law_X8_overlap : GoodIn wsL_law wsX8_overlap := goodIn_r _ [536, 17, 169, 170, 171, 2, 172, 112, 113, 114, 115, 82, 83, 84, 85, 13, 116, 117, 118, 29, 119, 53, 173, 174, 175, 55, 176, 133, 233, 234, 235, 537, 538, 523, 539, 540, 541, 542, 543, 525, 126, 127, 128, 124, 526, 190, 191, 192, 63, 544, 545, 546, 547, 548, 121, 122, 123, 528, 255, 256, 16, 257, 258, 33, 259, 260, 261, 262, 243, 263, 264, 265, 266, 675, 676, 677, 678, 679, 680, 707, 708, 709, 710, 711, 695, 696] (by decide +kernel) (by decide +kernel)
set_option maxRecDepth 20000 in
theorem gL_law_X8_overlap : GoodIn wsL_law (wsV RL 75 RX8 yX8_overlap wsX8_overlap) := goodIn_app (goodIn_of _ (by decide +kernel)) ggL_law_X8_overlap
set_option maxRecDepth 20000 in
theorem ggL_law_X9_overlap : GoodIn wsL_law wsX9_overlap := goodIn_r _ [552, 319, 73, 181, 182, 183, 5, 184, 71, 138, 139, 140, 101, 102, 103, 296, 297, 298, 307, 308, 309, 310, 145, 146, 147, 148, 70, 149, 150, 151, 152, 69, 141, 142, 143, 144, 315, 316, 317, 318, 320, 321, 322, 327, 328, 329, 330, 331, 332, 333, 334, 358, 359, 360, 361, 362, 72, 681, 682, 683, 684, 685, 686, 687, 688, 689, 690, 691, 692, 693, 694] (by decide +kernel) (by decide +kernel)
set_option maxRecDepth 20000 in
theorem gL_law_X9_overlap : GoodIn wsL_law (wsV RL 78 RX9 yX9_overlap wsX9_overlap) := goodIn_app (goodIn_of _ (by decide +kernel)) ggL_law_X9_overlap
set_option maxRecDepth 20000 in
theorem ggL_law_X8_pool : GoodIn wsL_law wsX8_pool := goodIn_r _ [556, 82, 83, 84, 2, 85, 13, 233, 234, 235, 557, 558, 559, 29, 560, 51, 561, 562, 563, 564, 53, 565, 545, 546, 55, 547, 548, 121, 122, 123, 124, 63, 675, 676, 677, 678, 679, 680, 707, 708, 709, 710, 711] (by decide +kernel) (by decide +kernel)
set_option maxRecDepth 20000 in
theorem gL_law_X8_pool : GoodIn wsL_law (wsV RL 79 RX8 yX8_pool wsX8_pool) := goodIn_app (goodIn_of _ (by decide +kernel)) ggL_law_X8_pool
set_option maxRecDepth 20000 in
theorem ggL_law_X9_pool : GoodIn wsL_law wsX9_pool := goodIn_r _ [569, 71, 101, 102, 5, 103, 296, 297, 298, 141, 142, 143, 144, 145, 146, 147, 148, 70, 149, 150, 151, 152, 69, 307, 308, 309, 310, 104, 105, 106, 107, 68, 681, 682, 683, 684, 685, 686, 687, 688, 689, 690, 691, 692, 693, 694] (by decide +kernel) (by decide +kernel)
set_option maxRecDepth 20000 in
theorem gL_law_X9_pool : GoodIn wsL_law (wsV RL 82 RX9 yX9_pool wsX9_pool) := goodIn_app (goodIn_of _ (by decide +kernel)) ggL_law_X9_pool
set_option maxRecDepth 20000 in
theorem ggL_law_X8_laid : GoodIn wsL_law wsX8_laid := goodIn_r _ [573, 27, 169, 170, 171, 2, 172, 112, 113, 114, 115, 82, 83, 84, 85, 13, 116, 117, 118, 29, 119, 53, 173, 174, 175, 55, 176, 133, 574, 575, 576, 26, 577, 578, 579, 580, 581, 582, 583, 584, 585, 586, 587, 588, 589, 126, 127, 128, 124, 590, 190, 191, 192, 63, 591, 592, 593, 594, 595, 596, 597, 598, 599, 600, 44, 46, 601, 602, 603, 604, 605, 606, 607, 608, 675, 676, 677, 678, 679, 680, 707, 708, 709, 710, 711, 700, 701, 702, 703, 704, 705, 706] (by decide +kernel) (by decide +kernel)
set_option maxRecDepth 20000 in
theorem gL_law_X8_laid : GoodIn wsL_law (wsV RL 83 RX8 yX8_laid wsX8_laid) := goodIn_app (goodIn_of _ (by decide +kernel)) ggL_law_X8_laid
set_option maxRecDepth 20000 in
theorem ggL_law_X9_laid : GoodIn wsL_law wsX9_laid := goodIn_r _ [612, 613, 76, 77, 181, 182, 183, 5, 184, 71, 138, 139, 140, 101, 102, 103, 614, 615, 616, 617, 618, 619, 620, 621, 622, 145, 146, 147, 148, 70, 149, 150, 151, 152, 69, 623, 624, 625, 626, 627, 628, 629, 630, 631, 632, 633, 634, 635, 636, 681, 682, 683, 684, 685, 686, 687, 688, 689, 690, 691, 692, 693, 694] (by decide +kernel) (by decide +kernel)
set_option maxRecDepth 20000 in
theorem gL_law_X9_laid : GoodIn wsL_law (wsV RL 86 RX9 yX9_laid wsX9_laid) := goodIn_app (goodIn_of _ (by decide +kernel)) ggL_law_X9_laid
set_option maxRecDepth 20000 in
theorem ggL_law_X8_clicks : GoodIn wsL_law wsX8_clicks := goodIn_r _ [640, 27, 82, 83, 84, 2, 85, 13, 169, 170, 171, 172, 112, 113, 114, 115, 116, 117, 118, 29, 119, 53, 173, 174, 175, 55, 176, 133, 574, 575, 576, 26, 577, 578, 579, 580, 581, 582, 583, 584, 585, 586, 587, 588, 589, 126, 127, 128, 124, 590, 190, 191, 192, 63, 591, 592, 593, 594, 595, 596, 597, 598, 599, 600, 44, 46, 641, 642, 643, 644, 645, 646, 647, 90, 91, 92, 51, 648, 649, 650, 651, 652, 653, 654, 655, 656, 657, 658, 675, 676, 677, 678, 679, 680, 707, 708, 709, 710, 711, 700, 701, 702, 703, 704, 705, 706] (by decide +kernel) (by decide +kernel)
set_option maxRecDepth 20000 in
theorem gL_law_X8_clicks : GoodIn wsL_law (wsV RL 87 RX8 yX8_clicks wsX8_clicks) := goodIn_app (goodIn_of _ (by decide +kernel)) ggL_law_X8_clicks
set_option maxRecDepth 20000 in
theorem ggL_law_X9_clicks : GoodIn wsL_law wsX9_clicks := goodIn_r _ [662, 181, 182, 183, 5, 184, 71, 138, 139, 140, 101, 102, 103, 663, 664, 665, 666, 613, 76, 77, 614, 615, 616, 617, 618, 619, 620, 621, 622, 145, 146, 147, 148, 70, 149, 150, 151, 152, 69, 623, 624, 625, 626, 627, 628, 629, 630, 631, 632, 633, 634, 635, 636, 104, 105, 106, 107, 68, 681, 682, 683, 684, 685, 686, 687, 688, 689, 690, 691, 692, 693, 694] (by decide +kernel) (by decide +kernel)
set_option maxRecDepth 20000 in
theorem gL_law_X9_clicks : GoodIn wsL_law (wsV RL 90 RX9 yX9_clicks wsX9_clicks) := goodIn_app (goodIn_of _ (by decide +kernel)) ggL_law_X9_clicks
set_option maxRecDepth 20000 in
theorem ggL_law_X8_prefer : GoodIn wsL_law wsX8_prefer := goodIn_r _ [670, 27, 82, 83, 84, 2, 85, 13, 169, 170, 171, 172, 112, 113, 114, 115, 116, 117, 118, 29, 119, 53, 173, 174, 175, 55, 176, 133, 574, 575, 576, 26, 577, 578, 579, 580, 581, 582, 583, 584, 585, 586, 587, 588, 589, 126, 127, 128, 124, 590, 190, 191, 192, 63, 591, 592, 593, 594, 595, 596, 597, 598, 599, 600, 44, 46, 641, 642, 643, 644, 645, 646, 647, 90, 91, 92, 51, 648, 649, 650, 651, 652, 653, 654, 655, 656, 657, 658, 675, 676, 677, 678, 679, 680, 707, 708, 709, 710, 711, 700, 701, 702, 703, 704, 705, 706] (by decide +kernel) (by decide +kernel)
set_option maxRecDepth 20000 in
theorem gL_law_X8_prefer : GoodIn wsL_law (wsV RL 91 RX8 yX8_prefer wsX8_prefer) := goodIn_app (goodIn_of _ (by decide +kernel)) ggL_law_X8_prefer
set_option maxRecDepth 20000 in
theorem ggL_law_X9_prefer : GoodIn wsL_law wsX9_prefer := goodIn_r _ [674, 181, 182, 183, 5, 184, 71, 138, 139, 140, 101, 102, 103, 663, 664, 665, 666, 613, 76, 77, 614, 615, 616, 617, 618, 619, 620, 621, 622, 145, 146, 147, 148, 70, 149, 150, 151, 152, 69, 623, 624, 625, 626, 627, 628, 629, 630, 631, 632, 633, 634, 635, 636, 104, 105, 106, 107, 68, 681, 682, 683, 684, 685, 686, 687, 688, 689, 690, 691, 692, 693, 694] (by decide +kernel) (by decide +kernel)
set_option maxRecDepth 20000 in
theorem gL_law_X9_prefer : GoodIn wsL_law (wsV RL 94 RX9 yX9_prefer wsX9_prefer) := goodIn_app (goodIn_of _ (by decide +kernel)) ggL_law_X9_prefer
