/-! 95a: the law's words are the tables' -/
theorem mem_r {big : List Cond} (ws : List Cond) (ps : List Nat) (hp : ws = ps.filterMap (fun i => big[i]?)) : ∀ w ∈ ws, w ∈ big := by
  intro w hw
  rw [hp] at hw
  obtain ⟨i, -, hi⟩ := List.mem_filterMap.mp hw
  exact List.mem_of_getElem? hi
set_option maxRecDepth 20000 in
theorem inL_1 : ∀ w ∈ wsL_law_r1, w ∈ lw_tbl := mem_r _ [57, 58, 43, 538, 539, 50, 59, 60, 61, 62, 63, 64, 65, 159, 67, 68, 44, 160, 161, 162, 80, 81, 45, 163] (by decide +kernel)
set_option maxRecDepth 20000 in
theorem inL_2 : ∀ w ∈ wsL_law_r2, w ∈ lw_tbl := mem_r _ [97, 98, 46, 164, 127, 47, 70, 71, 72, 74, 83, 84, 85, 96, 86, 87, 100, 101, 102, 125, 103, 126, 104, 128] (by decide +kernel)
set_option maxRecDepth 20000 in
theorem inL_3 : ∀ w ∈ wsL_law_r3, w ∈ lw_tbl := mem_r _ [129, 130, 131, 152, 132, 153, 137, 49, 134, 135, 48, 136, 139, 140, 141, 142, 540, 541, 542, 543, 544, 545, 546, 547] (by decide +kernel)
set_option maxRecDepth 20000 in
theorem inL_4 : ∀ w ∈ wsL_law_r4, w ∈ lw_tbl := mem_r _ [549, 551, 552, 553, 555, 556, 178, 179, 180, 181, 182, 184, 0, 185, 186, 187, 188, 189, 190, 191, 192, 193, 194, 195] (by decide +kernel)
set_option maxRecDepth 20000 in
theorem inL_5 : ∀ w ∈ wsL_law_r5, w ∈ lw_tbl := mem_r _ [196, 587, 588, 589, 590, 591, 592, 593, 594, 596, 11, 597, 197, 198, 199, 200, 201, 203, 1, 204, 205, 206, 207, 208] (by decide +kernel)
set_option maxRecDepth 20000 in
theorem inL_6 : ∀ w ∈ wsL_law_r6, w ∈ lw_tbl := mem_r _ [209, 210, 211, 212, 143, 213, 214, 215, 216, 217, 218, 219, 220, 144, 598, 599, 600, 601, 602, 603, 604, 605, 607, 12] (by decide +kernel)
set_option maxRecDepth 20000 in
theorem inL_7 : ∀ w ∈ wsL_law_r7, w ∈ lw_tbl := mem_r _ [608, 609, 611, 13, 612, 613, 615, 14, 616, 221, 222, 223, 224, 225, 226, 227, 228, 617, 618, 619, 620, 229, 230, 231] (by decide +kernel)
set_option maxRecDepth 20000 in
theorem inL_8 : ∀ w ∈ wsL_law_r8, w ∈ lw_tbl := mem_r _ [232, 233, 235, 2, 236, 237, 238, 239, 240, 621, 622, 623, 624, 625, 627, 15, 628, 241, 242, 243, 244, 245, 246, 247] (by decide +kernel)
set_option maxRecDepth 20000 in
theorem inL_9 : ∀ w ∈ wsL_law_r9, w ∈ lw_tbl := mem_r _ [248, 629, 630, 631, 632, 249, 250, 251, 252, 253, 254, 255, 256, 257, 258, 259, 260, 261, 262, 263, 264, 265, 633, 634] (by decide +kernel)
set_option maxRecDepth 20000 in
theorem inL_10 : ∀ w ∈ wsL_law_r10, w ∈ lw_tbl := mem_r _ [635, 636, 637, 639, 16, 640, 641, 643, 17, 644, 266, 267, 268, 269, 270, 271, 272, 273, 274, 275, 276, 277, 51, 278] (by decide +kernel)
set_option maxRecDepth 20000 in
theorem inL_11 : ∀ w ∈ wsL_law_r11, w ∈ lw_tbl := mem_r _ [305, 323, 324, 52, 325, 279, 280, 281, 282, 283, 284, 285, 286, 287, 288, 289, 290, 291, 73, 293, 294, 295, 296, 297] (by decide +kernel)
set_option maxRecDepth 20000 in
theorem inL_12 : ∀ w ∈ wsL_law_r12, w ∈ lw_tbl := mem_r _ [298, 299, 300, 301, 302, 303, 304, 306, 307, 308, 309, 310, 311, 312, 313, 314, 315, 316, 317, 318, 319, 320, 321, 322] (by decide +kernel)
set_option maxRecDepth 20000 in
theorem inL_13 : ∀ w ∈ wsL_law_r13, w ∈ lw_tbl := mem_r _ [326, 327, 328, 329, 653, 654, 655, 656, 657, 658, 659, 660, 662, 18, 663, 664, 666, 19, 667, 668, 670, 20, 671, 672] (by decide +kernel)
set_option maxRecDepth 20000 in
theorem inL_14 : ∀ w ∈ wsL_law_r14, w ∈ lw_tbl := mem_r _ [674, 21, 675, 676, 678, 22, 679, 550, 680, 681, 682, 683, 685, 23, 686, 687, 689, 24, 690, 691, 693, 25, 694, 695] (by decide +kernel)
set_option maxRecDepth 20000 in
theorem inL_15 : ∀ w ∈ wsL_law_r15, w ∈ lw_tbl := mem_r _ [697, 26, 698, 699, 701, 27, 702, 703, 704, 705, 706, 708, 28, 709, 710, 712, 29, 713, 714, 716, 30, 717, 718, 720] (by decide +kernel)
set_option maxRecDepth 20000 in
theorem inL_16 : ∀ w ∈ wsL_law_r16, w ∈ lw_tbl := mem_r _ [31, 721, 548, 330, 331, 332, 333, 334, 335, 336, 337, 645, 646, 647, 648, 338, 339, 340, 341, 342, 343, 344, 345, 649] (by decide +kernel)
set_option maxRecDepth 20000 in
theorem inL_17 : ∀ w ∈ wsL_law_r17, w ∈ lw_tbl := mem_r _ [650, 651, 652, 346, 347, 348, 349, 350, 351, 352, 353, 53, 354, 355, 356, 357, 358, 359, 360, 365, 361, 362, 54, 363] (by decide +kernel)
set_option maxRecDepth 20000 in
theorem inL_18 : ∀ w ∈ wsL_law_r18, w ∈ lw_tbl := mem_r _ [364, 722, 723, 724, 725, 726, 727, 728, 729, 730, 731, 366, 367, 368, 369, 370, 371, 372, 373, 374, 375, 376, 378, 3] (by decide +kernel)
set_option maxRecDepth 20000 in
theorem inL_19 : ∀ w ∈ wsL_law_r19, w ∈ lw_tbl := mem_r _ [379, 380, 381, 383, 4, 384, 385, 386, 387, 388, 390, 391, 392, 393, 732, 733, 734, 735, 736, 738, 32, 739, 740, 742] (by decide +kernel)
set_option maxRecDepth 20000 in
theorem inL_20 : ∀ w ∈ wsL_law_r20, w ∈ lw_tbl := mem_r _ [33, 743, 394, 395, 396, 397, 398, 400, 5, 401, 402, 403, 404, 405, 88, 406, 407, 408, 409, 410, 412, 413, 414, 415] (by decide +kernel)
set_option maxRecDepth 20000 in
theorem inL_21 : ∀ w ∈ wsL_law_r21, w ∈ lw_tbl := mem_r _ [416, 417, 418, 419, 420, 421, 422, 423, 424, 744, 745, 746, 747, 748, 750, 34, 751, 752, 754, 35, 755, 425, 426, 427] (by decide +kernel)
set_option maxRecDepth 20000 in
theorem inL_22 : ∀ w ∈ wsL_law_r22, w ∈ lw_tbl := mem_r _ [428, 429, 430, 431, 432, 433, 434, 55, 435, 756, 757, 758, 759, 436, 437, 438, 439, 440, 441, 56, 442, 443, 444, 445] (by decide +kernel)
set_option maxRecDepth 20000 in
theorem inL_23 : ∀ w ∈ wsL_law_r23, w ∈ lw_tbl := mem_r _ [446, 760, 761, 762, 763, 447, 448, 449, 450, 451, 452, 453, 462, 454, 455, 456, 457, 458, 459, 460, 461, 764, 765, 766] (by decide +kernel)
set_option maxRecDepth 20000 in
theorem inL_24 : ∀ w ∈ wsL_law_r24, w ∈ lw_tbl := mem_r _ [767, 463, 464, 465, 466, 467, 468, 469, 470, 471, 473, 6, 474, 475, 768, 769, 770, 771, 476, 477, 478, 479, 480, 481] (by decide +kernel)
set_option maxRecDepth 20000 in
theorem inL_25 : ∀ w ∈ wsL_law_r25, w ∈ lw_tbl := mem_r _ [482, 483, 106, 105, 109, 484, 486, 7, 487, 488, 490, 8, 491, 492, 493, 494, 496, 9, 497, 498, 499, 500, 502, 10] (by decide +kernel)
set_option maxRecDepth 20000 in
theorem inL_26 : ∀ w ∈ wsL_law_r26, w ∈ lw_tbl := mem_r _ [503, 504, 505, 506, 507, 508, 509, 510, 511, 772, 773, 774, 775, 557, 776, 778, 36, 779, 554, 780, 782, 37, 783, 784] (by decide +kernel)
set_option maxRecDepth 20000 in
theorem inL_27 : ∀ w ∈ wsL_law_r27, w ∈ lw_tbl := mem_r _ [786, 38, 787, 788, 790, 39, 791, 792, 793, 794, 796, 40, 797, 512, 513, 514, 515, 516, 517, 518, 519, 107, 108, 520] (by decide +kernel)
set_option maxRecDepth 20000 in
theorem inL_28 : ∀ w ∈ wsL_law_r28, w ∈ lw_tbl := mem_r _ [521, 522, 523, 526, 527, 528, 529, 530, 531, 532, 533, 798, 799, 800, 801, 802, 804, 41, 805, 534, 535, 536, 537, 806] (by decide +kernel)
set_option maxRecDepth 20000 in
theorem inL_29 : ∀ w ∈ wsL_law_r29, w ∈ lw_tbl := mem_r _ [807, 808, 809] (by decide +kernel)
set_option maxRecDepth 20000 in
theorem inL_X8 : ∀ w ∈ wsX80, w ∈ lw_tbl := mem_r _ [165, 167, 169, 171, 173, 175] (by decide +kernel)
set_option maxRecDepth 20000 in
theorem inL_X9 : ∀ w ∈ wsX90, w ∈ lw_tbl := mem_r _ [558, 560, 562, 564, 566, 568, 570, 572, 574, 576, 578, 580, 582, 584] (by decide +kernel)
set_option maxRecDepth 20000 in
theorem inL_X1 : ∀ w ∈ wsX10, w ∈ lw_tbl := mem_r _ [75, 77] (by decide +kernel)
set_option maxRecDepth 20000 in
theorem inL_X0 : ∀ w ∈ wsX00, w ∈ lw_tbl := mem_r _ [89, 91, 93] (by decide +kernel)
set_option maxRecDepth 20000 in
theorem inL_X4 : ∀ w ∈ wsX40, w ∈ lw_tbl := mem_r _ [110, 112, 114, 116, 118, 120, 122] (by decide +kernel)
set_option maxRecDepth 20000 in
theorem inL_X6 : ∀ w ∈ wsX60, w ∈ lw_tbl := mem_r _ [154, 156] (by decide +kernel)
set_option maxRecDepth 20000 in
theorem inL_X7 : ∀ w ∈ wsX70, w ∈ lw_tbl := mem_r _ [145, 147, 149] (by decide +kernel)
theorem inL : ∀ w ∈ wsL_law, w ∈ lw_tbl := by
  have ap : ∀ {a b : List Cond}, (∀ w ∈ a, w ∈ lw_tbl) → (∀ w ∈ b, w ∈ lw_tbl) → ∀ w ∈ a ++ b, w ∈ lw_tbl := fun h1 h2 w hw => (List.mem_append.mp hw).elim (h1 w) (h2 w)
  exact ap (ap (ap (ap (ap (ap (ap (ap (ap inL_1 (ap inL_2 (ap inL_3 (ap inL_4 (ap inL_5 (ap inL_6 (ap inL_7 (ap inL_8 (ap inL_9 (ap inL_10 (ap inL_11 (ap inL_12 (ap inL_13 (ap inL_14 (ap inL_15 (ap inL_16 (ap inL_17 (ap inL_18 (ap inL_19 (ap inL_20 (ap inL_21 (ap inL_22 (ap inL_23 (ap inL_24 (ap inL_25 (ap inL_26 (ap inL_27 (ap inL_28 inL_29)))))))))))))))))))))))))))) inL_X8) inL_X9) inL_X1) inL_X0) inL_X4) inL_X6) inL_X7) (fun _ h => absurd h List.not_mem_nil)
