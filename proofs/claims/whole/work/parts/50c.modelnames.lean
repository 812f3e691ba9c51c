theorem dX9_overlap_128 : decode cX9_overlap 128 = .ok (.lstore 5, 2) := by decide +kernel
theorem dX9_overlap_130 : decode cX9_overlap 130 = .ok (.aload_n 0, 1) := by decide +kernel
theorem dX9_overlap_131 : decode cX9_overlap 131 = .ok (.getfield 27, 3) := by decide +kernel
theorem dX9_overlap_134 : decode cX9_overlap 134 = .ok (.lstore 7, 2) := by decide +kernel
theorem dX9_overlap_136 : decode cX9_overlap 136 = .ok (.iinc 9 1, 3) := by decide +kernel
theorem dX9_overlap_139 : decode cX9_overlap 139 = .ok (.goto (-99), 3) := by decide +kernel
theorem dX9_overlap_142 : decode cX9_overlap 142 = .ok (.aload_n 0, 1) := by decide +kernel
theorem dX9_overlap_143 : decode cX9_overlap 143 = .ok (.lload 5, 2) := by decide +kernel
theorem dX9_overlap_145 : decode cX9_overlap 145 = .ok (.lload 7, 2) := by decide +kernel
theorem dX9_overlap_147 : decode cX9_overlap 147 = .ok (.invokevirtual 82, 3) := by decide +kernel
theorem dX9_overlap_150 : decode cX9_overlap 150 = .ok (.aload_n 0, 1) := by decide +kernel
theorem dX9_overlap_151 : decode cX9_overlap 151 = .ok (.iload 4, 2) := by decide +kernel
theorem dX9_overlap_153 : decode cX9_overlap 153 = .ok (.i2l, 1) := by decide +kernel
theorem dX9_overlap_154 : decode cX9_overlap 154 = .ok (.invokevirtual 98, 3) := by decide +kernel
theorem dX9_overlap_157 : decode cX9_overlap 157 = .ok (.aload_n 0, 1) := by decide +kernel
theorem dX9_overlap_158 : decode cX9_overlap 158 = .ok (.invokevirtual 134, 3) := by decide +kernel
theorem dX9_overlap_161 : decode cX9_overlap 161 = .ok (.iconst 1, 1) := by decide +kernel
theorem dX9_overlap_162 : decode cX9_overlap 162 = .ok (.ireturn, 1) := by decide +kernel
set_option maxRecDepth 20000 in
theorem ggX9_pool_X9_isQuestion : GoodIn wsX9_pool wsX9_isQuestion := goodIn_r _ [5] (by decide +kernel) (by decide +kernel)
set_option maxRecDepth 20000 in
theorem gX9_pool_X9_isQuestion : GoodIn wsX9_pool (va_wsS RX9 47 yX9_isQuestion wsX9_isQuestion) := goodIn_app (goodIn_of _ (by decide +kernel)) ggX9_pool_X9_isQuestion
set_option maxRecDepth 20000 in
theorem ggX9_pool_X9_isDeep : GoodIn wsX9_pool wsX9_isDeep := goodIn_r _ [8] (by decide +kernel) (by decide +kernel)
set_option maxRecDepth 20000 in
theorem gX9_pool_X9_isDeep : GoodIn wsX9_pool (va_wsS RX9 127 yX9_isDeep wsX9_isDeep) := goodIn_app (goodIn_of _ (by decide +kernel)) ggX9_pool_X9_isDeep
set_option maxRecDepth 20000 in
theorem ggX9_pool_X9_find : GoodIn wsX9_pool wsX9_find := goodIn_r _ [12, 13, 14, 15, 4, 16, 17, 18, 19, 20, 21, 22, 32, 33, 34, 35, 36, 37, 38, 39, 40, 41, 42, 43, 44, 45] (by decide +kernel) (by decide +kernel)
set_option maxRecDepth 20000 in
theorem gX9_pool_X9_find : GoodIn wsX9_pool (wsV RX9 61 RX9 yX9_find wsX9_find) := goodIn_app (goodIn_of _ (by decide +kernel)) ggX9_pool_X9_find
set_option maxRecDepth 20000 in
theorem ggX9_pool_X9_first : GoodIn wsX9_pool wsX9_first := goodIn_r _ [26, 13, 14, 15, 4, 16, 17, 32, 33, 34, 35, 36, 37, 38, 39, 40, 41, 42, 43, 44, 45] (by decide +kernel) (by decide +kernel)
set_option maxRecDepth 20000 in
theorem gX9_pool_X9_first : GoodIn wsX9_pool (wsV RX9 89 RX9 yX9_first wsX9_first) := goodIn_app (goodIn_of _ (by decide +kernel)) ggX9_pool_X9_first
set_option maxRecDepth 20000 in
theorem ggX9_pool_X9_gradeOf : GoodIn wsX9_pool wsX9_gradeOf := goodIn_r _ [30, 31, 32, 33, 34, 35, 36, 37, 38, 39, 40, 41, 42, 43, 44, 45] (by decide +kernel) (by decide +kernel)
set_option maxRecDepth 20000 in
theorem gX9_pool_X9_gradeOf : GoodIn wsX9_pool (wsV RX9 50 RX9 yX9_gradeOf wsX9_gradeOf) := goodIn_app (goodIn_of _ (by decide +kernel)) ggX9_pool_X9_gradeOf
theorem dX9_pool_0 : decode cX9_pool 0 = .ok (.iload_n 1, 1) := by decide +kernel
theorem dX9_pool_1 : decode cX9_pool 1 = .ok (.invokestatic 47, 3) := by decide +kernel
theorem dX9_pool_4 : decode cX9_pool 4 = .ok (.ifCond .ne 5, 3) := by decide +kernel
theorem dX9_pool_7 : decode cX9_pool 7 = .ok (.iconst (-1), 1) := by decide +kernel
theorem dX9_pool_8 : decode cX9_pool 8 = .ok (.ireturn, 1) := by decide +kernel
theorem dX9_pool_9 : decode cX9_pool 9 = .ok (.iload_n 2, 1) := by decide +kernel
theorem dX9_pool_10 : decode cX9_pool 10 = .ok (.invokestatic 127, 3) := by decide +kernel
theorem dX9_pool_13 : decode cX9_pool 13 = .ok (.ifCond .ne 6, 3) := by decide +kernel
theorem dX9_pool_16 : decode cX9_pool 16 = .ok (.bipush (-2), 2) := by decide +kernel
theorem dX9_pool_18 : decode cX9_pool 18 = .ok (.ireturn, 1) := by decide +kernel
theorem dX9_pool_19 : decode cX9_pool 19 = .ok (.iload_n 3, 1) := by decide +kernel
theorem dX9_pool_20 : decode cX9_pool 20 = .ok (.istore 4, 2) := by decide +kernel
theorem dX9_pool_22 : decode cX9_pool 22 = .ok (.iconst 0, 1) := by decide +kernel
theorem dX9_pool_23 : decode cX9_pool 23 = .ok (.istore 5, 2) := by decide +kernel
theorem dX9_pool_25 : decode cX9_pool 25 = .ok (.iload 5, 2) := by decide +kernel
theorem dX9_pool_27 : decode cX9_pool 27 = .ok (.bipush 24, 2) := by decide +kernel
theorem dX9_pool_29 : decode cX9_pool 29 = .ok (.if_icmp .ge 104, 3) := by decide +kernel
theorem dX9_pool_32 : decode cX9_pool 32 = .ok (.iload_n 3, 1) := by decide +kernel
theorem dX9_pool_33 : decode cX9_pool 33 = .ok (.ifCond .lt 100, 3) := by decide +kernel
theorem dX9_pool_36 : decode cX9_pool 36 = .ok (.iconst 0, 1) := by decide +kernel
theorem dX9_pool_37 : decode cX9_pool 37 = .ok (.istore 6, 2) := by decide +kernel
theorem dX9_pool_39 : decode cX9_pool 39 = .ok (.iconst 0, 1) := by decide +kernel
theorem dX9_pool_40 : decode cX9_pool 40 = .ok (.istore 7, 2) := by decide +kernel
theorem dX9_pool_42 : decode cX9_pool 42 = .ok (.iload 7, 2) := by decide +kernel
theorem dX9_pool_44 : decode cX9_pool 44 = .ok (.iconst 4, 1) := by decide +kernel
theorem dX9_pool_45 : decode cX9_pool 45 = .ok (.if_icmp .ge 56, 3) := by decide +kernel
theorem dX9_pool_48 : decode cX9_pool 48 = .ok (.iload 6, 2) := by decide +kernel
theorem dX9_pool_50 : decode cX9_pool 50 = .ok (.ifCond .ne 38, 3) := by decide +kernel
theorem dX9_pool_53 : decode cX9_pool 53 = .ok (.aload_n 0, 1) := by decide +kernel
theorem dX9_pool_54 : decode cX9_pool 54 = .ok (.getfield 19, 3) := by decide +kernel
theorem dX9_pool_57 : decode cX9_pool 57 = .ok (.bipush 8, 2) := by decide +kernel
theorem dX9_pool_59 : decode cX9_pool 59 = .ok (.iload 7, 2) := by decide +kernel
theorem dX9_pool_61 : decode cX9_pool 61 = .ok (.imul, 1) := by decide +kernel
theorem dX9_pool_62 : decode cX9_pool 62 = .ok (.iload_n 1, 1) := by decide +kernel
theorem dX9_pool_63 : decode cX9_pool 63 = .ok (.iadd, 1) := by decide +kernel
theorem dX9_pool_64 : decode cX9_pool 64 = .ok (.baload, 1) := by decide +kernel
theorem dX9_pool_65 : decode cX9_pool 65 = .ok (.ifCond .eq 27, 3) := by decide +kernel
theorem dX9_pool_68 : decode cX9_pool 68 = .ok (.aload_n 0, 1) := by decide +kernel
theorem dX9_pool_69 : decode cX9_pool 69 = .ok (.iload 7, 2) := by decide +kernel
theorem dX9_pool_71 : decode cX9_pool 71 = .ok (.iload_n 1, 1) := by decide +kernel
theorem dX9_pool_72 : decode cX9_pool 72 = .ok (.iload 5, 2) := by decide +kernel
theorem dX9_pool_74 : decode cX9_pool 74 = .ok (.invokevirtual 61, 3) := by decide +kernel
theorem dX9_pool_77 : decode cX9_pool 77 = .ok (.aload_n 0, 1) := by decide +kernel
theorem dX9_pool_78 : decode cX9_pool 78 = .ok (.iload 7, 2) := by decide +kernel
theorem dX9_pool_80 : decode cX9_pool 80 = .ok (.iload_n 1, 1) := by decide +kernel
theorem dX9_pool_81 : decode cX9_pool 81 = .ok (.iload_n 2, 1) := by decide +kernel
theorem dX9_pool_82 : decode cX9_pool 82 = .ok (.invokevirtual 89, 3) := by decide +kernel
theorem dX9_pool_85 : decode cX9_pool 85 = .ok (.if_icmp .ge 7, 3) := by decide +kernel
theorem dX9_pool_88 : decode cX9_pool 88 = .ok (.iconst 1, 1) := by decide +kernel
theorem dX9_pool_89 : decode cX9_pool 89 = .ok (.goto 4, 3) := by decide +kernel
theorem dX9_pool_92 : decode cX9_pool 92 = .ok (.iconst 0, 1) := by decide +kernel
theorem dX9_pool_93 : decode cX9_pool 93 = .ok (.istore 6, 2) := by decide +kernel
theorem dX9_pool_95 : decode cX9_pool 95 = .ok (.iinc 7 1, 3) := by decide +kernel
theorem dX9_pool_98 : decode cX9_pool 98 = .ok (.goto (-56), 3) := by decide +kernel
theorem dX9_pool_101 : decode cX9_pool 101 = .ok (.iload 6, 2) := by decide +kernel
theorem dX9_pool_103 : decode cX9_pool 103 = .ok (.ifCond .eq 24, 3) := by decide +kernel
theorem dX9_pool_106 : decode cX9_pool 106 = .ok (.aload_n 0, 1) := by decide +kernel
theorem dX9_pool_107 : decode cX9_pool 107 = .ok (.iload_n 1, 1) := by decide +kernel
theorem dX9_pool_108 : decode cX9_pool 108 = .ok (.iload 5, 2) := by decide +kernel
theorem dX9_pool_110 : decode cX9_pool 110 = .ok (.invokevirtual 50, 3) := by decide +kernel
theorem dX9_pool_113 : decode cX9_pool 113 = .ok (.ifCond .ge 14, 3) := by decide +kernel
theorem dX9_pool_116 : decode cX9_pool 116 = .ok (.iload 4, 2) := by decide +kernel
theorem dX9_pool_118 : decode cX9_pool 118 = .ok (.ifCond .ne 6, 3) := by decide +kernel
theorem dX9_pool_121 : decode cX9_pool 121 = .ok (.iload 5, 2) := by decide +kernel
theorem dX9_pool_123 : decode cX9_pool 123 = .ok (.ireturn, 1) := by decide +kernel
theorem dX9_pool_124 : decode cX9_pool 124 = .ok (.iinc 4 (-1), 3) := by decide +kernel
theorem dX9_pool_127 : decode cX9_pool 127 = .ok (.iinc 5 1, 3) := by decide +kernel
theorem dX9_pool_130 : decode cX9_pool 130 = .ok (.goto (-105), 3) := by decide +kernel
theorem dX9_pool_133 : decode cX9_pool 133 = .ok (.bipush (-3), 2) := by decide +kernel
theorem dX9_pool_135 : decode cX9_pool 135 = .ok (.ireturn, 1) := by decide +kernel
theorem dX9_draw_0 : decode cX9_draw 0 = .ok (.aload_n 0, 1) := by decide +kernel
theorem dX9_draw_1 : decode cX9_draw 1 = .ok (.ldc 160, 2) := by decide +kernel
theorem dX9_draw_3 : decode cX9_draw 3 = .ok (.aload_n 0, 1) := by decide +kernel
theorem dX9_draw_4 : decode cX9_draw 4 = .ok (.getfield 161, 3) := by decide +kernel
theorem dX9_draw_7 : decode cX9_draw 7 = .ok (.imul, 1) := by decide +kernel
theorem dX9_draw_8 : decode cX9_draw 8 = .ok (.ldc 165, 2) := by decide +kernel
theorem dX9_draw_10 : decode cX9_draw 10 = .ok (.iadd, 1) := by decide +kernel
theorem dX9_draw_11 : decode cX9_draw 11 = .ok (.putfield 161, 3) := by decide +kernel
theorem dX9_draw_14 : decode cX9_draw 14 = .ok (.aload_n 0, 1) := by decide +kernel
theorem dX9_draw_15 : decode cX9_draw 15 = .ok (.getfield 161, 3) := by decide +kernel
theorem dX9_draw_18 : decode cX9_draw 18 = .ok (.bipush 16, 2) := by decide +kernel
theorem dX9_draw_20 : decode cX9_draw 20 = .ok (.iushr, 1) := by decide +kernel
theorem dX9_draw_21 : decode cX9_draw 21 = .ok (.ireturn, 1) := by decide +kernel
theorem dX9_isLaid_0 : decode cX9_isLaid 0 = .ok (.iconst 0, 1) := by decide +kernel
theorem dX9_isLaid_1 : decode cX9_isLaid 1 = .ok (.istore_n 2, 1) := by decide +kernel
theorem dX9_isLaid_2 : decode cX9_isLaid 2 = .ok (.iload_n 2, 1) := by decide +kernel
theorem dX9_isLaid_3 : decode cX9_isLaid 3 = .ok (.aload_n 0, 1) := by decide +kernel
theorem dX9_isLaid_4 : decode cX9_isLaid 4 = .ok (.getfield 166, 3) := by decide +kernel
theorem dX9_isLaid_7 : decode cX9_isLaid 7 = .ok (.if_icmp .ge 21, 3) := by decide +kernel
theorem dX9_isLaid_10 : decode cX9_isLaid 10 = .ok (.aload_n 0, 1) := by decide +kernel
theorem dX9_isLaid_11 : decode cX9_isLaid 11 = .ok (.getfield 37, 3) := by decide +kernel
theorem dX9_isLaid_14 : decode cX9_isLaid 14 = .ok (.iload_n 2, 1) := by decide +kernel
theorem dX9_isLaid_15 : decode cX9_isLaid 15 = .ok (.iaload, 1) := by decide +kernel
theorem dX9_isLaid_16 : decode cX9_isLaid 16 = .ok (.iload_n 1, 1) := by decide +kernel
theorem dX9_isLaid_17 : decode cX9_isLaid 17 = .ok (.if_icmp .ne 5, 3) := by decide +kernel
theorem dX9_isLaid_20 : decode cX9_isLaid 20 = .ok (.iconst 1, 1) := by decide +kernel
theorem dX9_isLaid_21 : decode cX9_isLaid 21 = .ok (.ireturn, 1) := by decide +kernel
theorem dX9_isLaid_22 : decode cX9_isLaid 22 = .ok (.iinc 2 1, 3) := by decide +kernel
theorem dX9_isLaid_25 : decode cX9_isLaid 25 = .ok (.goto (-23), 3) := by decide +kernel
theorem dX9_isLaid_28 : decode cX9_isLaid 28 = .ok (.iconst 0, 1) := by decide +kernel
theorem dX9_isLaid_29 : decode cX9_isLaid 29 = .ok (.ireturn, 1) := by decide +kernel
set_option maxRecDepth 20000 in
theorem ggX9_nextOf_X9_size : GoodIn wsX9_nextOf wsX9_size := goodIn_r _ [5, 6, 18, 19, 20, 21, 22, 23, 24, 25, 26, 27, 28, 29, 30, 31] (by decide +kernel) (by decide +kernel)
set_option maxRecDepth 20000 in
theorem gX9_nextOf_X9_size : GoodIn wsX9_nextOf (wsV RX9 54 RX9 yX9_size wsX9_size) := goodIn_app (goodIn_of _ (by decide +kernel)) ggX9_nextOf_X9_size
set_option maxRecDepth 20000 in
theorem ggX9_nextOf_X9_doc : GoodIn wsX9_nextOf wsX9_doc := goodIn_r _ [10, 11, 18, 19, 20, 21, 22, 23, 24, 25, 26, 27, 28, 29, 30, 31] (by decide +kernel) (by decide +kernel)
set_option maxRecDepth 20000 in
theorem gX9_nextOf_X9_doc : GoodIn wsX9_nextOf (wsV RX9 57 RX9 yX9_doc wsX9_doc) := goodIn_app (goodIn_of _ (by decide +kernel)) ggX9_nextOf_X9_doc
set_option maxRecDepth 20000 in
theorem ggX9_nextOf_X9_isLaid : GoodIn wsX9_nextOf wsX9_isLaid := goodIn_r _ [15, 16, 17, 18, 19, 20, 21, 22, 23, 24, 25, 26, 27, 28, 29, 30, 31] (by decide +kernel) (by decide +kernel)
set_option maxRecDepth 20000 in
theorem gX9_nextOf_X9_isLaid : GoodIn wsX9_nextOf (wsV RX9 169 RX9 yX9_isLaid wsX9_isLaid) := goodIn_app (goodIn_of _ (by decide +kernel)) ggX9_nextOf_X9_isLaid
theorem dX9_nextOf_0 : decode cX9_nextOf 0 = .ok (.iconst 0, 1) := by decide +kernel
theorem dX9_nextOf_1 : decode cX9_nextOf 1 = .ok (.istore_n 3, 1) := by decide +kernel
theorem dX9_nextOf_2 : decode cX9_nextOf 2 = .ok (.iload_n 3, 1) := by decide +kernel
theorem dX9_nextOf_3 : decode cX9_nextOf 3 = .ok (.aload_n 0, 1) := by decide +kernel
theorem dX9_nextOf_4 : decode cX9_nextOf 4 = .ok (.iload_n 1, 1) := by decide +kernel
theorem dX9_nextOf_5 : decode cX9_nextOf 5 = .ok (.iload_n 2, 1) := by decide +kernel
theorem dX9_nextOf_6 : decode cX9_nextOf 6 = .ok (.invokevirtual 54, 3) := by decide +kernel
theorem dX9_nextOf_9 : decode cX9_nextOf 9 = .ok (.if_icmp .ge 31, 3) := by decide +kernel
theorem dX9_nextOf_12 : decode cX9_nextOf 12 = .ok (.aload_n 0, 1) := by decide +kernel
theorem dX9_nextOf_13 : decode cX9_nextOf 13 = .ok (.aload_n 0, 1) := by decide +kernel
theorem dX9_nextOf_14 : decode cX9_nextOf 14 = .ok (.iload_n 1, 1) := by decide +kernel
theorem dX9_nextOf_15 : decode cX9_nextOf 15 = .ok (.iload_n 2, 1) := by decide +kernel
theorem dX9_nextOf_16 : decode cX9_nextOf 16 = .ok (.iload_n 3, 1) := by decide +kernel
theorem dX9_nextOf_17 : decode cX9_nextOf 17 = .ok (.invokevirtual 57, 3) := by decide +kernel
theorem dX9_nextOf_20 : decode cX9_nextOf 20 = .ok (.invokevirtual 169, 3) := by decide +kernel
theorem dX9_nextOf_23 : decode cX9_nextOf 23 = .ok (.ifCond .ne 11, 3) := by decide +kernel
theorem dX9_nextOf_26 : decode cX9_nextOf 26 = .ok (.aload_n 0, 1) := by decide +kernel
theorem dX9_nextOf_27 : decode cX9_nextOf 27 = .ok (.iload_n 1, 1) := by decide +kernel
theorem dX9_nextOf_28 : decode cX9_nextOf 28 = .ok (.iload_n 2, 1) := by decide +kernel
theorem dX9_nextOf_29 : decode cX9_nextOf 29 = .ok (.iload_n 3, 1) := by decide +kernel
theorem dX9_nextOf_30 : decode cX9_nextOf 30 = .ok (.invokevirtual 57, 3) := by decide +kernel
theorem dX9_nextOf_33 : decode cX9_nextOf 33 = .ok (.ireturn, 1) := by decide +kernel
theorem dX9_nextOf_34 : decode cX9_nextOf 34 = .ok (.iinc 3 1, 3) := by decide +kernel
theorem dX9_nextOf_37 : decode cX9_nextOf 37 = .ok (.goto (-35), 3) := by decide +kernel
theorem dX9_nextOf_40 : decode cX9_nextOf 40 = .ok (.iconst (-1), 1) := by decide +kernel
theorem dX9_nextOf_41 : decode cX9_nextOf 41 = .ok (.ireturn, 1) := by decide +kernel
set_option maxRecDepth 20000 in
theorem ggX9_layOne_X9_nextOf : GoodIn wsX9_layOne wsX9_nextOf := goodIn_r _ [8, 9, 10, 11, 7, 12, 13, 14, 15, 16, 17, 18, 19, 20, 21, 22, 1, 2, 23, 24, 25, 26, 27, 28, 29, 30, 31, 32, 33, 34, 35, 36] (by decide +kernel) (by decide +kernel)
set_option maxRecDepth 20000 in
theorem gX9_layOne_X9_nextOf : GoodIn wsX9_layOne (wsV RX9 172 RX9 yX9_nextOf wsX9_nextOf) := goodIn_app (goodIn_of _ (by decide +kernel)) ggX9_layOne_X9_nextOf
theorem dX9_layOne_0 : decode cX9_layOne 0 = .ok (.aload_n 0, 1) := by decide +kernel
theorem dX9_layOne_1 : decode cX9_layOne 1 = .ok (.iload_n 1, 1) := by decide +kernel
theorem dX9_layOne_2 : decode cX9_layOne 2 = .ok (.iload_n 2, 1) := by decide +kernel
theorem dX9_layOne_3 : decode cX9_layOne 3 = .ok (.invokevirtual 172, 3) := by decide +kernel
theorem dX9_layOne_6 : decode cX9_layOne 6 = .ok (.istore 4, 2) := by decide +kernel
theorem dX9_layOne_8 : decode cX9_layOne 8 = .ok (.iload 4, 2) := by decide +kernel
theorem dX9_layOne_10 : decode cX9_layOne 10 = .ok (.ifCond .lt 43, 3) := by decide +kernel
theorem dX9_layOne_13 : decode cX9_layOne 13 = .ok (.aload_n 0, 1) := by decide +kernel
theorem dX9_layOne_14 : decode cX9_layOne 14 = .ok (.getfield 166, 3) := by decide +kernel
theorem dX9_layOne_17 : decode cX9_layOne 17 = .ok (.bipush 16, 2) := by decide +kernel
theorem dX9_layOne_19 : decode cX9_layOne 19 = .ok (.if_icmp .ge 34, 3) := by decide +kernel
theorem dX9_layOne_22 : decode cX9_layOne 22 = .ok (.aload_n 0, 1) := by decide +kernel
theorem dX9_layOne_23 : decode cX9_layOne 23 = .ok (.getfield 37, 3) := by decide +kernel
theorem dX9_layOne_26 : decode cX9_layOne 26 = .ok (.aload_n 0, 1) := by decide +kernel
theorem dX9_layOne_27 : decode cX9_layOne 27 = .ok (.getfield 166, 3) := by decide +kernel
theorem dX9_layOne_30 : decode cX9_layOne 30 = .ok (.iload 4, 2) := by decide +kernel
theorem dX9_layOne_32 : decode cX9_layOne 32 = .ok (.iastore, 1) := by decide +kernel
theorem dX9_layOne_33 : decode cX9_layOne 33 = .ok (.aload_n 0, 1) := by decide +kernel
theorem dX9_layOne_34 : decode cX9_layOne 34 = .ok (.getfield 40, 3) := by decide +kernel
theorem dX9_layOne_37 : decode cX9_layOne 37 = .ok (.aload_n 0, 1) := by decide +kernel
theorem dX9_layOne_38 : decode cX9_layOne 38 = .ok (.getfield 166, 3) := by decide +kernel
theorem dX9_layOne_41 : decode cX9_layOne 41 = .ok (.iload_n 3, 1) := by decide +kernel
theorem dX9_layOne_42 : decode cX9_layOne 42 = .ok (.bastore, 1) := by decide +kernel
theorem dX9_layOne_43 : decode cX9_layOne 43 = .ok (.aload_n 0, 1) := by decide +kernel
theorem dX9_layOne_44 : decode cX9_layOne 44 = .ok (.dup, 1) := by decide +kernel
theorem dX9_layOne_45 : decode cX9_layOne 45 = .ok (.getfield 166, 3) := by decide +kernel
theorem dX9_layOne_48 : decode cX9_layOne 48 = .ok (.iconst 1, 1) := by decide +kernel
theorem dX9_layOne_49 : decode cX9_layOne 49 = .ok (.iadd, 1) := by decide +kernel
theorem dX9_layOne_50 : decode cX9_layOne 50 = .ok (.putfield 166, 3) := by decide +kernel
theorem dX9_layOne_53 : decode cX9_layOne 53 = .ok (.return_, 1) := by decide +kernel
set_option maxRecDepth 20000 in
theorem ggX9_lay_X9_nextOf : GoodIn wsX9_lay wsX9_nextOf := goodIn_r _ [7, 8, 9, 10, 6, 11, 12, 13, 14, 15, 16, 17, 18, 19, 20, 21, 2, 22, 34, 35, 36, 37, 38, 39, 40, 41, 42, 43, 44, 45, 46, 47] (by decide +kernel) (by decide +kernel)
set_option maxRecDepth 20000 in
theorem gX9_lay_X9_nextOf : GoodIn wsX9_lay (wsV RX9 172 RX9 yX9_nextOf wsX9_nextOf) := goodIn_app (goodIn_of _ (by decide +kernel)) ggX9_lay_X9_nextOf
set_option maxRecDepth 20000 in
theorem ggX9_lay_X9_draw : GoodIn wsX9_lay wsX9_draw := goodIn_r _ [26, 27, 1, 28, 34, 35, 36, 37, 38, 39, 40, 41, 42, 43, 44, 45, 46, 47] (by decide +kernel) (by decide +kernel)
set_option maxRecDepth 20000 in
theorem gX9_lay_X9_draw : GoodIn wsX9_lay (wsV RX9 175 RX9 yX9_draw wsX9_draw) := goodIn_app (goodIn_of _ (by decide +kernel)) ggX9_lay_X9_draw
set_option maxRecDepth 20000 in
theorem ggX9_lay_X9_layOne : GoodIn wsX9_lay wsX9_layOne := goodIn_r _ [32, 2, 22, 33, 3, 4, 5, 6, 7, 8, 9, 10, 11, 12, 13, 14, 15, 16, 17, 18, 19, 20, 21, 34, 35, 36, 37, 38, 39, 40, 41, 42, 43, 44, 45, 46, 47] (by decide +kernel) (by decide +kernel)
set_option maxRecDepth 20000 in
theorem gX9_lay_X9_layOne : GoodIn wsX9_lay (wsV RX9 179 RX9 yX9_layOne wsX9_layOne) := goodIn_app (goodIn_of _ (by decide +kernel)) ggX9_lay_X9_layOne
theorem dX9_lay_0 : decode cX9_lay 0 = .ok (.aload_n 0, 1) := by decide +kernel
theorem dX9_lay_1 : decode cX9_lay 1 = .ok (.iload 4, 2) := by decide +kernel
theorem dX9_lay_3 : decode cX9_lay 3 = .ok (.putfield 161, 3) := by decide +kernel
theorem dX9_lay_6 : decode cX9_lay 6 = .ok (.aload_n 0, 1) := by decide +kernel
theorem dX9_lay_7 : decode cX9_lay 7 = .ok (.iconst 0, 1) := by decide +kernel
theorem dX9_lay_8 : decode cX9_lay 8 = .ok (.putfield 166, 3) := by decide +kernel
theorem dX9_lay_11 : decode cX9_lay 11 = .ok (.aload_n 0, 1) := by decide +kernel
theorem dX9_lay_12 : decode cX9_lay 12 = .ok (.getfield 166, 3) := by decide +kernel
theorem dX9_lay_15 : decode cX9_lay 15 = .ok (.bipush 16, 2) := by decide +kernel
theorem dX9_lay_17 : decode cX9_lay 17 = .ok (.if_icmp .ge 82, 3) := by decide +kernel
theorem dX9_lay_20 : decode cX9_lay 20 = .ok (.aload_n 0, 1) := by decide +kernel
theorem dX9_lay_21 : decode cX9_lay 21 = .ok (.iload_n 1, 1) := by decide +kernel
theorem dX9_lay_22 : decode cX9_lay 22 = .ok (.iload_n 3, 1) := by decide +kernel
theorem dX9_lay_23 : decode cX9_lay 23 = .ok (.invokevirtual 172, 3) := by decide +kernel
theorem dX9_lay_26 : decode cX9_lay 26 = .ok (.ifCond .ge 12, 3) := by decide +kernel
theorem dX9_lay_29 : decode cX9_lay 29 = .ok (.aload_n 0, 1) := by decide +kernel
theorem dX9_lay_30 : decode cX9_lay 30 = .ok (.iload_n 2, 1) := by decide +kernel
theorem dX9_lay_31 : decode cX9_lay 31 = .ok (.iload_n 3, 1) := by decide +kernel
theorem dX9_lay_32 : decode cX9_lay 32 = .ok (.invokevirtual 172, 3) := by decide +kernel
theorem dX9_lay_35 : decode cX9_lay 35 = .ok (.ifCond .lt 64, 3) := by decide +kernel
theorem dX9_lay_38 : decode cX9_lay 38 = .ok (.aload_n 0, 1) := by decide +kernel
theorem dX9_lay_39 : decode cX9_lay 39 = .ok (.invokevirtual 175, 3) := by decide +kernel
theorem dX9_lay_42 : decode cX9_lay 42 = .ok (.iconst 2, 1) := by decide +kernel
theorem dX9_lay_43 : decode cX9_lay 43 = .ok (.irem, 1) := by decide +kernel
theorem dX9_lay_44 : decode cX9_lay 44 = .ok (.ifCond .ne 7, 3) := by decide +kernel
theorem dX9_lay_47 : decode cX9_lay 47 = .ok (.iconst 1, 1) := by decide +kernel
theorem dX9_lay_48 : decode cX9_lay 48 = .ok (.goto 4, 3) := by decide +kernel
theorem dX9_lay_51 : decode cX9_lay 51 = .ok (.iconst 0, 1) := by decide +kernel
theorem dX9_lay_52 : decode cX9_lay 52 = .ok (.istore 5, 2) := by decide +kernel
theorem dX9_lay_54 : decode cX9_lay 54 = .ok (.aload_n 0, 1) := by decide +kernel
theorem dX9_lay_55 : decode cX9_lay 55 = .ok (.iload 5, 2) := by decide +kernel
theorem dX9_lay_57 : decode cX9_lay 57 = .ok (.ifCond .eq 7, 3) := by decide +kernel
theorem dX9_lay_60 : decode cX9_lay 60 = .ok (.iload_n 1, 1) := by decide +kernel
theorem dX9_lay_61 : decode cX9_lay 61 = .ok (.goto 4, 3) := by decide +kernel
theorem dX9_lay_64 : decode cX9_lay 64 = .ok (.iload_n 2, 1) := by decide +kernel
theorem dX9_lay_65 : decode cX9_lay 65 = .ok (.iload_n 3, 1) := by decide +kernel
theorem dX9_lay_66 : decode cX9_lay 66 = .ok (.iload 5, 2) := by decide +kernel
theorem dX9_lay_68 : decode cX9_lay 68 = .ok (.ifCond .ne 7, 3) := by decide +kernel
theorem dX9_lay_71 : decode cX9_lay 71 = .ok (.iconst 1, 1) := by decide +kernel
theorem dX9_lay_72 : decode cX9_lay 72 = .ok (.goto 4, 3) := by decide +kernel
theorem dX9_lay_75 : decode cX9_lay 75 = .ok (.iconst 0, 1) := by decide +kernel
theorem dX9_lay_76 : decode cX9_lay 76 = .ok (.invokevirtual 179, 3) := by decide +kernel
theorem dX9_lay_79 : decode cX9_lay 79 = .ok (.aload_n 0, 1) := by decide +kernel
theorem dX9_lay_80 : decode cX9_lay 80 = .ok (.iload 5, 2) := by decide +kernel
theorem dX9_lay_82 : decode cX9_lay 82 = .ok (.ifCond .eq 7, 3) := by decide +kernel
theorem dX9_lay_85 : decode cX9_lay 85 = .ok (.iload_n 2, 1) := by decide +kernel
theorem dX9_lay_86 : decode cX9_lay 86 = .ok (.goto 4, 3) := by decide +kernel
theorem dX9_lay_89 : decode cX9_lay 89 = .ok (.iload_n 1, 1) := by decide +kernel
theorem dX9_lay_90 : decode cX9_lay 90 = .ok (.iload_n 3, 1) := by decide +kernel
theorem dX9_lay_91 : decode cX9_lay 91 = .ok (.iload 5, 2) := by decide +kernel
theorem dX9_lay_93 : decode cX9_lay 93 = .ok (.invokevirtual 179, 3) := by decide +kernel
theorem dX9_lay_96 : decode cX9_lay 96 = .ok (.goto (-85), 3) := by decide +kernel
theorem dX9_lay_99 : decode cX9_lay 99 = .ok (.return_, 1) := by decide +kernel
set_option maxRecDepth 20000 in
theorem ggX9_laid_X9_isRow : GoodIn wsX9_laid wsX9_isRow := goodIn_r _ [8, 9, 10, 11, 7, 12, 13, 14, 15, 49, 50, 51, 52, 53, 54, 55, 56, 57, 58, 59, 60, 61, 62] (by decide +kernel) (by decide +kernel)
set_option maxRecDepth 20000 in
theorem gX9_laid_X9_isRow : GoodIn wsX9_laid (wsV RX9 64 RX9 yX9_isRow wsX9_isRow) := goodIn_app (goodIn_of _ (by decide +kernel)) ggX9_laid_X9_isRow
set_option maxRecDepth 20000 in
theorem ggX9_laid_X9_lay : GoodIn wsX9_laid wsX9_lay := goodIn_r _ [19, 20, 1, 21, 22, 23, 7, 24, 25, 26, 27, 28, 29, 30, 31, 32, 33, 34, 35, 36, 37, 38, 2, 39, 40, 41, 42, 43, 44, 45, 46, 47, 48, 3, 49, 50, 51, 52, 53, 54, 55, 56, 57, 58, 59, 60, 61, 62] (by decide +kernel) (by decide +kernel)
set_option maxRecDepth 20000 in
theorem gX9_laid_X9_lay : GoodIn wsX9_laid (wsV RX9 183 RX9 yX9_lay wsX9_lay) := goodIn_app (goodIn_of _ (by decide +kernel)) ggX9_laid_X9_lay
theorem dX9_laid_0 : decode cX9_laid 0 = .ok (.aload_n 0, 1) := by decide +kernel
theorem dX9_laid_1 : decode cX9_laid 1 = .ok (.iload_n 1, 1) := by decide +kernel
theorem dX9_laid_2 : decode cX9_laid 2 = .ok (.iload_n 3, 1) := by decide +kernel
theorem dX9_laid_3 : decode cX9_laid 3 = .ok (.invokevirtual 64, 3) := by decide +kernel
theorem dX9_laid_6 : decode cX9_laid 6 = .ok (.ifCond .eq 12, 3) := by decide +kernel
theorem dX9_laid_9 : decode cX9_laid 9 = .ok (.aload_n 0, 1) := by decide +kernel
theorem dX9_laid_10 : decode cX9_laid 10 = .ok (.iload_n 2, 1) := by decide +kernel
theorem dX9_laid_11 : decode cX9_laid 11 = .ok (.iload_n 3, 1) := by decide +kernel
theorem dX9_laid_12 : decode cX9_laid 12 = .ok (.invokevirtual 64, 3) := by decide +kernel
theorem dX9_laid_15 : decode cX9_laid 15 = .ok (.ifCond .ne 5, 3) := by decide +kernel
theorem dX9_laid_18 : decode cX9_laid 18 = .ok (.iconst (-1), 1) := by decide +kernel
theorem dX9_laid_19 : decode cX9_laid 19 = .ok (.ireturn, 1) := by decide +kernel
theorem dX9_laid_20 : decode cX9_laid 20 = .ok (.aload_n 0, 1) := by decide +kernel
theorem dX9_laid_21 : decode cX9_laid 21 = .ok (.iload_n 1, 1) := by decide +kernel
theorem dX9_laid_22 : decode cX9_laid 22 = .ok (.iload_n 2, 1) := by decide +kernel
theorem dX9_laid_23 : decode cX9_laid 23 = .ok (.iload_n 3, 1) := by decide +kernel
theorem dX9_laid_24 : decode cX9_laid 24 = .ok (.iload 4, 2) := by decide +kernel
theorem dX9_laid_26 : decode cX9_laid 26 = .ok (.invokevirtual 183, 3) := by decide +kernel
theorem dX9_laid_29 : decode cX9_laid 29 = .ok (.iload 5, 2) := by decide +kernel
theorem dX9_laid_31 : decode cX9_laid 31 = .ok (.ifCond .lt 12, 3) := by decide +kernel
theorem dX9_laid_34 : decode cX9_laid 34 = .ok (.iload 5, 2) := by decide +kernel
theorem dX9_laid_36 : decode cX9_laid 36 = .ok (.aload_n 0, 1) := by decide +kernel
theorem dX9_laid_37 : decode cX9_laid 37 = .ok (.getfield 166, 3) := by decide +kernel
theorem dX9_laid_40 : decode cX9_laid 40 = .ok (.if_icmp .lt 8, 3) := by decide +kernel
theorem dX9_laid_43 : decode cX9_laid 43 = .ok (.bipush (-3), 2) := by decide +kernel
theorem dX9_laid_45 : decode cX9_laid 45 = .ok (.goto 27, 3) := by decide +kernel
theorem dX9_laid_48 : decode cX9_laid 48 = .ok (.aload_n 0, 1) := by decide +kernel
theorem dX9_laid_49 : decode cX9_laid 49 = .ok (.getfield 37, 3) := by decide +kernel
theorem dX9_laid_52 : decode cX9_laid 52 = .ok (.iload 5, 2) := by decide +kernel
theorem dX9_laid_54 : decode cX9_laid 54 = .ok (.iaload, 1) := by decide +kernel
theorem dX9_laid_55 : decode cX9_laid 55 = .ok (.aload_n 0, 1) := by decide +kernel
theorem dX9_laid_56 : decode cX9_laid 56 = .ok (.getfield 40, 3) := by decide +kernel
theorem dX9_laid_59 : decode cX9_laid 59 = .ok (.iload 5, 2) := by decide +kernel
theorem dX9_laid_61 : decode cX9_laid 61 = .ok (.baload, 1) := by decide +kernel
theorem dX9_laid_62 : decode cX9_laid 62 = .ok (.ifCond .eq 8, 3) := by decide +kernel
theorem dX9_laid_65 : decode cX9_laid 65 = .ok (.bipush 100, 2) := by decide +kernel
theorem dX9_laid_67 : decode cX9_laid 67 = .ok (.goto 4, 3) := by decide +kernel
theorem dX9_laid_70 : decode cX9_laid 70 = .ok (.iconst 0, 1) := by decide +kernel
theorem dX9_laid_71 : decode cX9_laid 71 = .ok (.iadd, 1) := by decide +kernel
theorem dX9_laid_72 : decode cX9_laid 72 = .ok (.ireturn, 1) := by decide +kernel
set_option maxRecDepth 20000 in
theorem ggX9_clicked_X9_lay : GoodIn wsX9_clicked wsX9_lay := goodIn_r _ [8, 9, 1, 10, 11, 12, 7, 13, 14, 15, 16, 17, 18, 19, 20, 21, 22, 23, 24, 25, 26, 27, 2, 28, 29, 30, 31, 32, 33, 34, 35, 36, 37, 3, 43, 44, 45, 46, 47, 48, 49, 50, 51, 52, 53, 54, 55, 56] (by decide +kernel) (by decide +kernel)
set_option maxRecDepth 20000 in
theorem gX9_clicked_X9_lay : GoodIn wsX9_clicked (wsV RX9 183 RX9 yX9_lay wsX9_lay) := goodIn_app (goodIn_of _ (by decide +kernel)) ggX9_clicked_X9_lay
set_option maxRecDepth 20000 in
theorem ggX9_clicked_X9_gradeOf : GoodIn wsX9_clicked wsX9_gradeOf := goodIn_r _ [41, 42, 43, 44, 45, 46, 47, 48, 49, 50, 51, 52, 53, 54, 55, 56] (by decide +kernel) (by decide +kernel)
set_option maxRecDepth 20000 in
theorem gX9_clicked_X9_gradeOf : GoodIn wsX9_clicked (wsV RX9 50 RX9 yX9_gradeOf wsX9_gradeOf) := goodIn_app (goodIn_of _ (by decide +kernel)) ggX9_clicked_X9_gradeOf
set_option maxRecDepth 20000 in
theorem ggX9_clicked_X9_draw : GoodIn wsX9_clicked wsX9_draw := goodIn_r _ [31, 32, 9, 33, 43, 44, 45, 46, 47, 48, 49, 50, 51, 52, 53, 54, 55, 56] (by decide +kernel) (by decide +kernel)
set_option maxRecDepth 20000 in
theorem gX9_clicked_X9_draw : GoodIn wsX9_clicked (wsV RX9 175 RX9 yX9_draw wsX9_draw) := goodIn_app (goodIn_of _ (by decide +kernel)) ggX9_clicked_X9_draw
theorem dX9_clicked_0 : decode cX9_clicked 0 = .ok (.aload_n 0, 1) := by decide +kernel
theorem dX9_clicked_1 : decode cX9_clicked 1 = .ok (.iload_n 1, 1) := by decide +kernel
theorem dX9_clicked_2 : decode cX9_clicked 2 = .ok (.iload_n 2, 1) := by decide +kernel
theorem dX9_clicked_3 : decode cX9_clicked 3 = .ok (.iload_n 3, 1) := by decide +kernel
theorem dX9_clicked_4 : decode cX9_clicked 4 = .ok (.iload 4, 2) := by decide +kernel
theorem dX9_clicked_6 : decode cX9_clicked 6 = .ok (.invokevirtual 183, 3) := by decide +kernel
theorem dX9_clicked_9 : decode cX9_clicked 9 = .ok (.iconst 0, 1) := by decide +kernel
theorem dX9_clicked_10 : decode cX9_clicked 10 = .ok (.istore 5, 2) := by decide +kernel
theorem dX9_clicked_12 : decode cX9_clicked 12 = .ok (.iconst 1, 1) := by decide +kernel
theorem dX9_clicked_13 : decode cX9_clicked 13 = .ok (.istore 6, 2) := by decide +kernel
theorem dX9_clicked_15 : decode cX9_clicked 15 = .ok (.iconst 0, 1) := by decide +kernel
theorem dX9_clicked_16 : decode cX9_clicked 16 = .ok (.istore 7, 2) := by decide +kernel
theorem dX9_clicked_18 : decode cX9_clicked 18 = .ok (.iload 7, 2) := by decide +kernel
theorem dX9_clicked_20 : decode cX9_clicked 20 = .ok (.aload_n 0, 1) := by decide +kernel
theorem dX9_clicked_21 : decode cX9_clicked 21 = .ok (.getfield 166, 3) := by decide +kernel
theorem dX9_clicked_24 : decode cX9_clicked 24 = .ok (.if_icmp .ge 107, 3) := by decide +kernel
theorem dX9_clicked_27 : decode cX9_clicked 27 = .ok (.iload 6, 2) := by decide +kernel
theorem dX9_clicked_29 : decode cX9_clicked 29 = .ok (.ifCond .eq 102, 3) := by decide +kernel
theorem dX9_clicked_32 : decode cX9_clicked 32 = .ok (.aload_n 0, 1) := by decide +kernel
theorem dX9_clicked_33 : decode cX9_clicked 33 = .ok (.iload_n 3, 1) := by decide +kernel
theorem dX9_clicked_34 : decode cX9_clicked 34 = .ok (.aload_n 0, 1) := by decide +kernel
theorem dX9_clicked_35 : decode cX9_clicked 35 = .ok (.getfield 37, 3) := by decide +kernel
theorem dX9_clicked_38 : decode cX9_clicked 38 = .ok (.iload 7, 2) := by decide +kernel
theorem dX9_clicked_40 : decode cX9_clicked 40 = .ok (.iaload, 1) := by decide +kernel
theorem dX9_clicked_41 : decode cX9_clicked 41 = .ok (.invokevirtual 50, 3) := by decide +kernel
theorem dX9_clicked_44 : decode cX9_clicked 44 = .ok (.istore 8, 2) := by decide +kernel
theorem dX9_clicked_46 : decode cX9_clicked 46 = .ok (.iload 8, 2) := by decide +kernel
theorem dX9_clicked_48 : decode cX9_clicked 48 = .ok (.ifCond .ge 8, 3) := by decide +kernel
theorem dX9_clicked_51 : decode cX9_clicked 51 = .ok (.bipush 20, 2) := by decide +kernel
theorem dX9_clicked_53 : decode cX9_clicked 53 = .ok (.goto 18, 3) := by decide +kernel
theorem dX9_clicked_56 : decode cX9_clicked 56 = .ok (.iload 8, 2) := by decide +kernel
theorem dX9_clicked_58 : decode cX9_clicked 58 = .ok (.ifCond .ne 8, 3) := by decide +kernel
theorem dX9_clicked_61 : decode cX9_clicked 61 = .ok (.bipush 10, 2) := by decide +kernel
theorem dX9_clicked_63 : decode cX9_clicked 63 = .ok (.goto 8, 3) := by decide +kernel
theorem dX9_clicked_66 : decode cX9_clicked 66 = .ok (.bipush 30, 2) := by decide +kernel
theorem dX9_clicked_68 : decode cX9_clicked 68 = .ok (.iload 8, 2) := by decide +kernel
theorem dX9_clicked_70 : decode cX9_clicked 70 = .ok (.imul, 1) := by decide +kernel
theorem dX9_clicked_71 : decode cX9_clicked 71 = .ok (.istore 9, 2) := by decide +kernel
theorem dX9_clicked_73 : decode cX9_clicked 73 = .ok (.aload_n 0, 1) := by decide +kernel
theorem dX9_clicked_74 : decode cX9_clicked 74 = .ok (.invokevirtual 175, 3) := by decide +kernel
theorem dX9_clicked_77 : decode cX9_clicked 77 = .ok (.bipush 100, 2) := by decide +kernel
theorem dX9_clicked_79 : decode cX9_clicked 79 = .ok (.irem, 1) := by decide +kernel
theorem dX9_clicked_80 : decode cX9_clicked 80 = .ok (.iload 9, 2) := by decide +kernel
theorem dX9_clicked_82 : decode cX9_clicked 82 = .ok (.if_icmp .ge 43, 3) := by decide +kernel
theorem dX9_clicked_85 : decode cX9_clicked 85 = .ok (.iload 5, 2) := by decide +kernel
theorem dX9_clicked_87 : decode cX9_clicked 87 = .ok (.aload_n 0, 1) := by decide +kernel
theorem dX9_clicked_88 : decode cX9_clicked 88 = .ok (.getfield 40, 3) := by decide +kernel
theorem dX9_clicked_91 : decode cX9_clicked 91 = .ok (.iload 7, 2) := by decide +kernel
theorem dX9_clicked_93 : decode cX9_clicked 93 = .ok (.baload, 1) := by decide +kernel
theorem dX9_clicked_94 : decode cX9_clicked 94 = .ok (.ifCond .eq 8, 3) := by decide +kernel
theorem dX9_clicked_97 : decode cX9_clicked 97 = .ok (.bipush 100, 2) := by decide +kernel
theorem dX9_clicked_99 : decode cX9_clicked 99 = .ok (.goto 4, 3) := by decide +kernel
theorem dX9_clicked_102 : decode cX9_clicked 102 = .ok (.iconst 1, 1) := by decide +kernel
theorem dX9_clicked_103 : decode cX9_clicked 103 = .ok (.iadd, 1) := by decide +kernel
theorem dX9_clicked_104 : decode cX9_clicked 104 = .ok (.istore 5, 2) := by decide +kernel
theorem dX9_clicked_106 : decode cX9_clicked 106 = .ok (.aload_n 0, 1) := by decide +kernel
theorem dX9_clicked_107 : decode cX9_clicked 107 = .ok (.invokevirtual 175, 3) := by decide +kernel
theorem dX9_clicked_110 : decode cX9_clicked 110 = .ok (.bipush 100, 2) := by decide +kernel
theorem dX9_clicked_112 : decode cX9_clicked 112 = .ok (.irem, 1) := by decide +kernel
theorem dX9_clicked_113 : decode cX9_clicked 113 = .ok (.bipush 50, 2) := by decide +kernel
theorem dX9_clicked_115 : decode cX9_clicked 115 = .ok (.if_icmp .lt 7, 3) := by decide +kernel
theorem dX9_clicked_118 : decode cX9_clicked 118 = .ok (.iconst 1, 1) := by decide +kernel
theorem dX9_clicked_119 : decode cX9_clicked 119 = .ok (.goto 4, 3) := by decide +kernel
theorem dX9_clicked_122 : decode cX9_clicked 122 = .ok (.iconst 0, 1) := by decide +kernel
theorem dX9_clicked_123 : decode cX9_clicked 123 = .ok (.istore 6, 2) := by decide +kernel
theorem dX9_clicked_125 : decode cX9_clicked 125 = .ok (.iinc 7 1, 3) := by decide +kernel
theorem dX9_clicked_128 : decode cX9_clicked 128 = .ok (.goto (-110), 3) := by decide +kernel
theorem dX9_clicked_131 : decode cX9_clicked 131 = .ok (.iload 5, 2) := by decide +kernel
theorem dX9_clicked_133 : decode cX9_clicked 133 = .ok (.ireturn, 1) := by decide +kernel
set_option maxRecDepth 20000 in
theorem ggX9_clicks_X9_isRow : GoodIn wsX9_clicks wsX9_isRow := goodIn_r _ [5, 6, 7, 8, 4, 9, 10, 11, 12, 58, 59, 60, 61, 62, 63, 64, 65, 66, 67, 68, 69, 70, 71] (by decide +kernel) (by decide +kernel)
set_option maxRecDepth 20000 in
theorem gX9_clicks_X9_isRow : GoodIn wsX9_clicks (wsV RX9 64 RX9 yX9_isRow wsX9_isRow) := goodIn_app (goodIn_of _ (by decide +kernel)) ggX9_clicks_X9_isRow
set_option maxRecDepth 20000 in
theorem ggX9_clicks_X9_clicked : GoodIn wsX9_clicks wsX9_clicked := goodIn_r _ [16, 17, 18, 19, 20, 21, 22, 4, 23, 24, 25, 26, 27, 28, 29, 30, 31, 32, 33, 34, 35, 36, 37, 38, 39, 40, 41, 42, 43, 44, 45, 46, 47, 48, 49, 50, 51, 52, 53, 54, 55, 56, 57, 58, 59, 60, 61, 62, 63, 64, 65, 66, 67, 68, 69, 70, 71] (by decide +kernel) (by decide +kernel)
set_option maxRecDepth 20000 in
theorem gX9_clicks_X9_clicked : GoodIn wsX9_clicks (wsV RX9 186 RX9 yX9_clicked wsX9_clicked) := goodIn_app (goodIn_of _ (by decide +kernel)) ggX9_clicks_X9_clicked
theorem dX9_clicks_0 : decode cX9_clicks 0 = .ok (.aload_n 0, 1) := by decide +kernel
theorem dX9_clicks_1 : decode cX9_clicks 1 = .ok (.iload_n 1, 1) := by decide +kernel
theorem dX9_clicks_2 : decode cX9_clicks 2 = .ok (.iload_n 3, 1) := by decide +kernel
theorem dX9_clicks_3 : decode cX9_clicks 3 = .ok (.invokevirtual 64, 3) := by decide +kernel
theorem dX9_clicks_6 : decode cX9_clicks 6 = .ok (.ifCond .eq 12, 3) := by decide +kernel
theorem dX9_clicks_9 : decode cX9_clicks 9 = .ok (.aload_n 0, 1) := by decide +kernel
theorem dX9_clicks_10 : decode cX9_clicks 10 = .ok (.iload_n 2, 1) := by decide +kernel
theorem dX9_clicks_11 : decode cX9_clicks 11 = .ok (.iload_n 3, 1) := by decide +kernel
theorem dX9_clicks_12 : decode cX9_clicks 12 = .ok (.invokevirtual 64, 3) := by decide +kernel
theorem dX9_clicks_15 : decode cX9_clicks 15 = .ok (.ifCond .ne 5, 3) := by decide +kernel
theorem dX9_clicks_18 : decode cX9_clicks 18 = .ok (.iconst (-1), 1) := by decide +kernel
theorem dX9_clicks_19 : decode cX9_clicks 19 = .ok (.ireturn, 1) := by decide +kernel
theorem dX9_clicks_20 : decode cX9_clicks 20 = .ok (.aload_n 0, 1) := by decide +kernel
theorem dX9_clicks_21 : decode cX9_clicks 21 = .ok (.iload_n 1, 1) := by decide +kernel
theorem dX9_clicks_22 : decode cX9_clicks 22 = .ok (.iload_n 2, 1) := by decide +kernel
theorem dX9_clicks_23 : decode cX9_clicks 23 = .ok (.iload_n 3, 1) := by decide +kernel
theorem dX9_clicks_24 : decode cX9_clicks 24 = .ok (.iload 4, 2) := by decide +kernel
theorem dX9_clicks_26 : decode cX9_clicks 26 = .ok (.invokevirtual 186, 3) := by decide +kernel
theorem dX9_clicks_29 : decode cX9_clicks 29 = .ok (.ireturn, 1) := by decide +kernel
set_option maxRecDepth 20000 in
theorem ggX9_prefer_X9_isRow : GoodIn wsX9_prefer wsX9_isRow := goodIn_r _ [5, 6, 7, 8, 4, 9, 10, 11, 12, 58, 59, 60, 61, 62, 63, 64, 65, 66, 67, 68, 69, 70, 71] (by decide +kernel) (by decide +kernel)
set_option maxRecDepth 20000 in
theorem gX9_prefer_X9_isRow : GoodIn wsX9_prefer (wsV RX9 64 RX9 yX9_isRow wsX9_isRow) := goodIn_app (goodIn_of _ (by decide +kernel)) ggX9_prefer_X9_isRow
set_option maxRecDepth 20000 in
theorem ggX9_prefer_X9_clicked : GoodIn wsX9_prefer wsX9_clicked := goodIn_r _ [16, 17, 18, 19, 20, 21, 22, 4, 23, 24, 25, 26, 27, 28, 29, 30, 31, 32, 33, 34, 35, 36, 37, 38, 39, 40, 41, 42, 43, 44, 45, 46, 47, 48, 49, 50, 51, 52, 53, 54, 55, 56, 57, 58, 59, 60, 61, 62, 63, 64, 65, 66, 67, 68, 69, 70, 71] (by decide +kernel) (by decide +kernel)
set_option maxRecDepth 20000 in
theorem gX9_prefer_X9_clicked : GoodIn wsX9_prefer (wsV RX9 186 RX9 yX9_clicked wsX9_clicked) := goodIn_app (goodIn_of _ (by decide +kernel)) ggX9_prefer_X9_clicked
theorem dX9_prefer_0 : decode cX9_prefer 0 = .ok (.aload_n 0, 1) := by decide +kernel
theorem dX9_prefer_1 : decode cX9_prefer 1 = .ok (.iload_n 1, 1) := by decide +kernel
theorem dX9_prefer_2 : decode cX9_prefer 2 = .ok (.iload_n 3, 1) := by decide +kernel
theorem dX9_prefer_3 : decode cX9_prefer 3 = .ok (.invokevirtual 64, 3) := by decide +kernel
theorem dX9_prefer_6 : decode cX9_prefer 6 = .ok (.ifCond .eq 12, 3) := by decide +kernel
theorem dX9_prefer_9 : decode cX9_prefer 9 = .ok (.aload_n 0, 1) := by decide +kernel
theorem dX9_prefer_10 : decode cX9_prefer 10 = .ok (.iload_n 2, 1) := by decide +kernel
theorem dX9_prefer_11 : decode cX9_prefer 11 = .ok (.iload_n 3, 1) := by decide +kernel
theorem dX9_prefer_12 : decode cX9_prefer 12 = .ok (.invokevirtual 64, 3) := by decide +kernel
theorem dX9_prefer_15 : decode cX9_prefer 15 = .ok (.ifCond .ne 5, 3) := by decide +kernel
theorem dX9_prefer_18 : decode cX9_prefer 18 = .ok (.iconst (-1), 1) := by decide +kernel
theorem dX9_prefer_19 : decode cX9_prefer 19 = .ok (.ireturn, 1) := by decide +kernel
theorem dX9_prefer_20 : decode cX9_prefer 20 = .ok (.iload 5, 2) := by decide +kernel
theorem dX9_prefer_22 : decode cX9_prefer 22 = .ok (.iconst 1, 1) := by decide +kernel
theorem dX9_prefer_23 : decode cX9_prefer 23 = .ok (.if_icmp .lt 10, 3) := by decide +kernel
theorem dX9_prefer_26 : decode cX9_prefer 26 = .ok (.iload 5, 2) := by decide +kernel
theorem dX9_prefer_28 : decode cX9_prefer 28 = .ok (.bipush 50, 2) := by decide +kernel
theorem dX9_prefer_30 : decode cX9_prefer 30 = .ok (.if_icmp .le 6, 3) := by decide +kernel
theorem dX9_prefer_33 : decode cX9_prefer 33 = .ok (.bipush (-2), 2) := by decide +kernel
theorem dX9_prefer_35 : decode cX9_prefer 35 = .ok (.ireturn, 1) := by decide +kernel
theorem dX9_prefer_36 : decode cX9_prefer 36 = .ok (.iconst 0, 1) := by decide +kernel
theorem dX9_prefer_37 : decode cX9_prefer 37 = .ok (.istore 6, 2) := by decide +kernel
theorem dX9_prefer_39 : decode cX9_prefer 39 = .ok (.iconst 0, 1) := by decide +kernel
theorem dX9_prefer_40 : decode cX9_prefer 40 = .ok (.istore 7, 2) := by decide +kernel
theorem dX9_prefer_42 : decode cX9_prefer 42 = .ok (.iload 7, 2) := by decide +kernel
theorem dX9_prefer_44 : decode cX9_prefer 44 = .ok (.iload 5, 2) := by decide +kernel
theorem dX9_prefer_46 : decode cX9_prefer 46 = .ok (.if_icmp .ge 64, 3) := by decide +kernel
theorem dX9_prefer_49 : decode cX9_prefer 49 = .ok (.aload_n 0, 1) := by decide +kernel
theorem dX9_prefer_50 : decode cX9_prefer 50 = .ok (.iload_n 1, 1) := by decide +kernel
theorem dX9_prefer_51 : decode cX9_prefer 51 = .ok (.iload_n 2, 1) := by decide +kernel
theorem dX9_prefer_52 : decode cX9_prefer 52 = .ok (.iload_n 3, 1) := by decide +kernel
theorem dX9_prefer_53 : decode cX9_prefer 53 = .ok (.iload 4, 2) := by decide +kernel
theorem dX9_prefer_55 : decode cX9_prefer 55 = .ok (.iload 7, 2) := by decide +kernel
theorem dX9_prefer_57 : decode cX9_prefer 57 = .ok (.iadd, 1) := by decide +kernel
theorem dX9_prefer_58 : decode cX9_prefer 58 = .ok (.invokevirtual 186, 3) := by decide +kernel
theorem dX9_prefer_61 : decode cX9_prefer 61 = .ok (.istore 8, 2) := by decide +kernel
theorem dX9_prefer_63 : decode cX9_prefer 63 = .ok (.iload 6, 2) := by decide +kernel
theorem dX9_prefer_65 : decode cX9_prefer 65 = .ok (.iload 8, 2) := by decide +kernel
theorem dX9_prefer_67 : decode cX9_prefer 67 = .ok (.bipush 100, 2) := by decide +kernel
theorem dX9_prefer_69 : decode cX9_prefer 69 = .ok (.irem, 1) := by decide +kernel
theorem dX9_prefer_70 : decode cX9_prefer 70 = .ok (.iload 8, 2) := by decide +kernel
theorem dX9_prefer_72 : decode cX9_prefer 72 = .ok (.bipush 100, 2) := by decide +kernel
theorem dX9_prefer_74 : decode cX9_prefer 74 = .ok (.idiv, 1) := by decide +kernel
theorem dX9_prefer_75 : decode cX9_prefer 75 = .ok (.if_icmp .le 7, 3) := by decide +kernel
theorem dX9_prefer_78 : decode cX9_prefer 78 = .ok (.iconst 1, 1) := by decide +kernel
theorem dX9_prefer_79 : decode cX9_prefer 79 = .ok (.goto 22, 3) := by decide +kernel
theorem dX9_prefer_82 : decode cX9_prefer 82 = .ok (.iload 8, 2) := by decide +kernel
theorem dX9_prefer_84 : decode cX9_prefer 84 = .ok (.bipush 100, 2) := by decide +kernel
theorem dX9_prefer_86 : decode cX9_prefer 86 = .ok (.irem, 1) := by decide +kernel
theorem dX9_prefer_87 : decode cX9_prefer 87 = .ok (.iload 8, 2) := by decide +kernel
theorem dX9_prefer_89 : decode cX9_prefer 89 = .ok (.bipush 100, 2) := by decide +kernel
theorem dX9_prefer_91 : decode cX9_prefer 91 = .ok (.idiv, 1) := by decide +kernel
theorem dX9_prefer_92 : decode cX9_prefer 92 = .ok (.if_icmp .ge 8, 3) := by decide +kernel
theorem dX9_prefer_95 : decode cX9_prefer 95 = .ok (.bipush 100, 2) := by decide +kernel
theorem dX9_prefer_97 : decode cX9_prefer 97 = .ok (.goto 4, 3) := by decide +kernel
theorem dX9_prefer_100 : decode cX9_prefer 100 = .ok (.iconst 0, 1) := by decide +kernel
theorem dX9_prefer_101 : decode cX9_prefer 101 = .ok (.iadd, 1) := by decide +kernel
theorem dX9_prefer_102 : decode cX9_prefer 102 = .ok (.istore 6, 2) := by decide +kernel
theorem dX9_prefer_104 : decode cX9_prefer 104 = .ok (.iinc 7 1, 3) := by decide +kernel
theorem dX9_prefer_107 : decode cX9_prefer 107 = .ok (.goto (-65), 3) := by decide +kernel
theorem dX9_prefer_110 : decode cX9_prefer 110 = .ok (.iload 6, 2) := by decide +kernel
theorem dX9_prefer_112 : decode cX9_prefer 112 = .ok (.ireturn, 1) := by decide +kernel
