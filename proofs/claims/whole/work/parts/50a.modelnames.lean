theorem dX9_init_0 : decode cX9_init 0 = .ok (.aload_n 0, 1) := by decide +kernel
theorem dX9_init_1 : decode cX9_init 1 = .ok (.invokespecial 1, 3) := by decide +kernel
theorem dX9_init_4 : decode cX9_init 4 = .ok (.aload_n 0, 1) := by decide +kernel
theorem dX9_init_5 : decode cX9_init 5 = .ok (.sipush 192, 3) := by decide +kernel
theorem dX9_init_8 : decode cX9_init 8 = .ok (.newarray .int, 2) := by decide +kernel
theorem dX9_init_10 : decode cX9_init 10 = .ok (.putfield 7, 3) := by decide +kernel
theorem dX9_init_13 : decode cX9_init 13 = .ok (.aload_n 0, 1) := by decide +kernel
theorem dX9_init_14 : decode cX9_init 14 = .ok (.sipush 512, 3) := by decide +kernel
theorem dX9_init_17 : decode cX9_init 17 = .ok (.newarray .int, 2) := by decide +kernel
theorem dX9_init_19 : decode cX9_init 19 = .ok (.putfield 13, 3) := by decide +kernel
theorem dX9_init_22 : decode cX9_init 22 = .ok (.aload_n 0, 1) := by decide +kernel
theorem dX9_init_23 : decode cX9_init 23 = .ok (.bipush 32, 2) := by decide +kernel
theorem dX9_init_25 : decode cX9_init 25 = .ok (.newarray .int, 2) := by decide +kernel
theorem dX9_init_27 : decode cX9_init 27 = .ok (.putfield 16, 3) := by decide +kernel
theorem dX9_init_30 : decode cX9_init 30 = .ok (.aload_n 0, 1) := by decide +kernel
theorem dX9_init_31 : decode cX9_init 31 = .ok (.bipush 32, 2) := by decide +kernel
theorem dX9_init_33 : decode cX9_init 33 = .ok (.newarray .boolean, 2) := by decide +kernel
theorem dX9_init_35 : decode cX9_init 35 = .ok (.putfield 19, 3) := by decide +kernel
theorem dX9_init_38 : decode cX9_init 38 = .ok (.aload_n 0, 1) := by decide +kernel
theorem dX9_init_39 : decode cX9_init 39 = .ok (.lconst 1, 1) := by decide +kernel
theorem dX9_init_40 : decode cX9_init 40 = .ok (.putfield 23, 3) := by decide +kernel
theorem dX9_init_43 : decode cX9_init 43 = .ok (.aload_n 0, 1) := by decide +kernel
theorem dX9_init_44 : decode cX9_init 44 = .ok (.lconst 1, 1) := by decide +kernel
theorem dX9_init_45 : decode cX9_init 45 = .ok (.putfield 27, 3) := by decide +kernel
theorem dX9_init_48 : decode cX9_init 48 = .ok (.aload_n 0, 1) := by decide +kernel
theorem dX9_init_49 : decode cX9_init 49 = .ok (.bipush 8, 2) := by decide +kernel
theorem dX9_init_51 : decode cX9_init 51 = .ok (.newarray .long, 2) := by decide +kernel
theorem dX9_init_53 : decode cX9_init 53 = .ok (.putfield 30, 3) := by decide +kernel
theorem dX9_init_56 : decode cX9_init 56 = .ok (.aload_n 0, 1) := by decide +kernel
theorem dX9_init_57 : decode cX9_init 57 = .ok (.bipush 8, 2) := by decide +kernel
theorem dX9_init_59 : decode cX9_init 59 = .ok (.newarray .long, 2) := by decide +kernel
theorem dX9_init_61 : decode cX9_init 61 = .ok (.putfield 34, 3) := by decide +kernel
theorem dX9_init_64 : decode cX9_init 64 = .ok (.aload_n 0, 1) := by decide +kernel
theorem dX9_init_65 : decode cX9_init 65 = .ok (.bipush 16, 2) := by decide +kernel
theorem dX9_init_67 : decode cX9_init 67 = .ok (.newarray .int, 2) := by decide +kernel
theorem dX9_init_69 : decode cX9_init 69 = .ok (.putfield 37, 3) := by decide +kernel
theorem dX9_init_72 : decode cX9_init 72 = .ok (.aload_n 0, 1) := by decide +kernel
theorem dX9_init_73 : decode cX9_init 73 = .ok (.bipush 16, 2) := by decide +kernel
theorem dX9_init_75 : decode cX9_init 75 = .ok (.newarray .boolean, 2) := by decide +kernel
theorem dX9_init_77 : decode cX9_init 77 = .ok (.putfield 40, 3) := by decide +kernel
theorem dX9_init_80 : decode cX9_init 80 = .ok (.return_, 1) := by decide +kernel
theorem dX9_isQuestion_0 : decode cX9_isQuestion 0 = .ok (.iload_n 0, 1) := by decide +kernel
theorem dX9_isQuestion_1 : decode cX9_isQuestion 1 = .ok (.ifCond .lt 13, 3) := by decide +kernel
theorem dX9_isQuestion_4 : decode cX9_isQuestion 4 = .ok (.iload_n 0, 1) := by decide +kernel
theorem dX9_isQuestion_5 : decode cX9_isQuestion 5 = .ok (.bipush 8, 2) := by decide +kernel
theorem dX9_isQuestion_7 : decode cX9_isQuestion 7 = .ok (.if_icmp .ge 7, 3) := by decide +kernel
theorem dX9_isQuestion_10 : decode cX9_isQuestion 10 = .ok (.iconst 1, 1) := by decide +kernel
theorem dX9_isQuestion_11 : decode cX9_isQuestion 11 = .ok (.goto 4, 3) := by decide +kernel
theorem dX9_isQuestion_14 : decode cX9_isQuestion 14 = .ok (.iconst 0, 1) := by decide +kernel
theorem dX9_isQuestion_15 : decode cX9_isQuestion 15 = .ok (.ireturn, 1) := by decide +kernel
theorem dX9_isRanker_0 : decode cX9_isRanker 0 = .ok (.iload_n 0, 1) := by decide +kernel
theorem dX9_isRanker_1 : decode cX9_isRanker 1 = .ok (.ifCond .lt 12, 3) := by decide +kernel
theorem dX9_isRanker_4 : decode cX9_isRanker 4 = .ok (.iload_n 0, 1) := by decide +kernel
theorem dX9_isRanker_5 : decode cX9_isRanker 5 = .ok (.iconst 4, 1) := by decide +kernel
theorem dX9_isRanker_6 : decode cX9_isRanker 6 = .ok (.if_icmp .ge 7, 3) := by decide +kernel
theorem dX9_isRanker_9 : decode cX9_isRanker 9 = .ok (.iconst 1, 1) := by decide +kernel
theorem dX9_isRanker_10 : decode cX9_isRanker 10 = .ok (.goto 4, 3) := by decide +kernel
theorem dX9_isRanker_13 : decode cX9_isRanker 13 = .ok (.iconst 0, 1) := by decide +kernel
theorem dX9_isRanker_14 : decode cX9_isRanker 14 = .ok (.ireturn, 1) := by decide +kernel
set_option maxRecDepth 20000 in
theorem ggX9_isRow_X9_isRanker : GoodIn wsX9_isRow wsX9_isRanker := goodIn_r _ [5] (by decide +kernel) (by decide +kernel)
set_option maxRecDepth 20000 in
theorem gX9_isRow_X9_isRanker : GoodIn wsX9_isRow (va_wsS RX9 43 yX9_isRanker wsX9_isRanker) := goodIn_app (goodIn_of _ (by decide +kernel)) ggX9_isRow_X9_isRanker
set_option maxRecDepth 20000 in
theorem ggX9_isRow_X9_isQuestion : GoodIn wsX9_isRow wsX9_isQuestion := goodIn_r _ [8] (by decide +kernel) (by decide +kernel)
set_option maxRecDepth 20000 in
theorem gX9_isRow_X9_isQuestion : GoodIn wsX9_isRow (va_wsS RX9 47 yX9_isQuestion wsX9_isQuestion) := goodIn_app (goodIn_of _ (by decide +kernel)) ggX9_isRow_X9_isQuestion
theorem dX9_isRow_0 : decode cX9_isRow 0 = .ok (.iload_n 1, 1) := by decide +kernel
theorem dX9_isRow_1 : decode cX9_isRow 1 = .ok (.invokestatic 43, 3) := by decide +kernel
theorem dX9_isRow_4 : decode cX9_isRow 4 = .ok (.ifCond .eq 28, 3) := by decide +kernel
theorem dX9_isRow_7 : decode cX9_isRow 7 = .ok (.iload_n 2, 1) := by decide +kernel
theorem dX9_isRow_8 : decode cX9_isRow 8 = .ok (.invokestatic 47, 3) := by decide +kernel
theorem dX9_isRow_11 : decode cX9_isRow 11 = .ok (.ifCond .eq 21, 3) := by decide +kernel
theorem dX9_isRow_14 : decode cX9_isRow 14 = .ok (.aload_n 0, 1) := by decide +kernel
theorem dX9_isRow_15 : decode cX9_isRow 15 = .ok (.getfield 19, 3) := by decide +kernel
theorem dX9_isRow_18 : decode cX9_isRow 18 = .ok (.bipush 8, 2) := by decide +kernel
theorem dX9_isRow_20 : decode cX9_isRow 20 = .ok (.iload_n 1, 1) := by decide +kernel
theorem dX9_isRow_21 : decode cX9_isRow 21 = .ok (.imul, 1) := by decide +kernel
theorem dX9_isRow_22 : decode cX9_isRow 22 = .ok (.iload_n 2, 1) := by decide +kernel
theorem dX9_isRow_23 : decode cX9_isRow 23 = .ok (.iadd, 1) := by decide +kernel
theorem dX9_isRow_24 : decode cX9_isRow 24 = .ok (.baload, 1) := by decide +kernel
theorem dX9_isRow_25 : decode cX9_isRow 25 = .ok (.ifCond .eq 7, 3) := by decide +kernel
theorem dX9_isRow_28 : decode cX9_isRow 28 = .ok (.iconst 1, 1) := by decide +kernel
theorem dX9_isRow_29 : decode cX9_isRow 29 = .ok (.goto 4, 3) := by decide +kernel
theorem dX9_isRow_32 : decode cX9_isRow 32 = .ok (.iconst 0, 1) := by decide +kernel
theorem dX9_isRow_33 : decode cX9_isRow 33 = .ok (.ireturn, 1) := by decide +kernel
theorem dX9_gradeOf_0 : decode cX9_gradeOf 0 = .ok (.aload_n 0, 1) := by decide +kernel
theorem dX9_gradeOf_1 : decode cX9_gradeOf 1 = .ok (.getfield 7, 3) := by decide +kernel
theorem dX9_gradeOf_4 : decode cX9_gradeOf 4 = .ok (.bipush 24, 2) := by decide +kernel
theorem dX9_gradeOf_6 : decode cX9_gradeOf 6 = .ok (.iload_n 1, 1) := by decide +kernel
theorem dX9_gradeOf_7 : decode cX9_gradeOf 7 = .ok (.imul, 1) := by decide +kernel
theorem dX9_gradeOf_8 : decode cX9_gradeOf 8 = .ok (.iload_n 2, 1) := by decide +kernel
theorem dX9_gradeOf_9 : decode cX9_gradeOf 9 = .ok (.iadd, 1) := by decide +kernel
theorem dX9_gradeOf_10 : decode cX9_gradeOf 10 = .ok (.iaload, 1) := by decide +kernel
theorem dX9_gradeOf_11 : decode cX9_gradeOf 11 = .ok (.iconst 1, 1) := by decide +kernel
theorem dX9_gradeOf_12 : decode cX9_gradeOf 12 = .ok (.isub, 1) := by decide +kernel
theorem dX9_gradeOf_13 : decode cX9_gradeOf 13 = .ok (.ireturn, 1) := by decide +kernel
set_option maxRecDepth 20000 in
theorem ggX9_isGood_X9_gradeOf : GoodIn wsX9_isGood wsX9_gradeOf := goodIn_r _ [5, 6, 7, 8, 9, 10, 11, 12, 13, 14, 15, 16, 17, 18, 19, 20] (by decide +kernel) (by decide +kernel)
set_option maxRecDepth 20000 in
theorem gX9_isGood_X9_gradeOf : GoodIn wsX9_isGood (wsV RX9 50 RX9 yX9_gradeOf wsX9_gradeOf) := goodIn_app (goodIn_of _ (by decide +kernel)) ggX9_isGood_X9_gradeOf
theorem dX9_isGood_0 : decode cX9_isGood 0 = .ok (.aload_n 0, 1) := by decide +kernel
theorem dX9_isGood_1 : decode cX9_isGood 1 = .ok (.iload_n 1, 1) := by decide +kernel
theorem dX9_isGood_2 : decode cX9_isGood 2 = .ok (.iload_n 2, 1) := by decide +kernel
theorem dX9_isGood_3 : decode cX9_isGood 3 = .ok (.invokevirtual 50, 3) := by decide +kernel
theorem dX9_isGood_6 : decode cX9_isGood 6 = .ok (.ifCond .le 7, 3) := by decide +kernel
theorem dX9_isGood_9 : decode cX9_isGood 9 = .ok (.iconst 1, 1) := by decide +kernel
theorem dX9_isGood_10 : decode cX9_isGood 10 = .ok (.goto 4, 3) := by decide +kernel
theorem dX9_isGood_13 : decode cX9_isGood 13 = .ok (.iconst 0, 1) := by decide +kernel
theorem dX9_isGood_14 : decode cX9_isGood 14 = .ok (.ireturn, 1) := by decide +kernel
theorem dX9_doc_0 : decode cX9_doc 0 = .ok (.aload_n 0, 1) := by decide +kernel
theorem dX9_doc_1 : decode cX9_doc 1 = .ok (.getfield 13, 3) := by decide +kernel
theorem dX9_doc_4 : decode cX9_doc 4 = .ok (.bipush 16, 2) := by decide +kernel
theorem dX9_doc_6 : decode cX9_doc 6 = .ok (.bipush 8, 2) := by decide +kernel
theorem dX9_doc_8 : decode cX9_doc 8 = .ok (.iload_n 1, 1) := by decide +kernel
theorem dX9_doc_9 : decode cX9_doc 9 = .ok (.imul, 1) := by decide +kernel
theorem dX9_doc_10 : decode cX9_doc 10 = .ok (.iload_n 2, 1) := by decide +kernel
theorem dX9_doc_11 : decode cX9_doc 11 = .ok (.iadd, 1) := by decide +kernel
theorem dX9_doc_12 : decode cX9_doc 12 = .ok (.imul, 1) := by decide +kernel
theorem dX9_doc_13 : decode cX9_doc 13 = .ok (.iload_n 3, 1) := by decide +kernel
theorem dX9_doc_14 : decode cX9_doc 14 = .ok (.iadd, 1) := by decide +kernel
theorem dX9_doc_15 : decode cX9_doc 15 = .ok (.iaload, 1) := by decide +kernel
theorem dX9_doc_16 : decode cX9_doc 16 = .ok (.ireturn, 1) := by decide +kernel
theorem dX9_size_0 : decode cX9_size 0 = .ok (.aload_n 0, 1) := by decide +kernel
theorem dX9_size_1 : decode cX9_size 1 = .ok (.getfield 16, 3) := by decide +kernel
theorem dX9_size_4 : decode cX9_size 4 = .ok (.bipush 8, 2) := by decide +kernel
theorem dX9_size_6 : decode cX9_size 6 = .ok (.iload_n 1, 1) := by decide +kernel
theorem dX9_size_7 : decode cX9_size 7 = .ok (.imul, 1) := by decide +kernel
theorem dX9_size_8 : decode cX9_size 8 = .ok (.iload_n 2, 1) := by decide +kernel
theorem dX9_size_9 : decode cX9_size 9 = .ok (.iadd, 1) := by decide +kernel
theorem dX9_size_10 : decode cX9_size 10 = .ok (.iaload, 1) := by decide +kernel
theorem dX9_size_11 : decode cX9_size 11 = .ok (.ireturn, 1) := by decide +kernel
set_option maxRecDepth 20000 in
theorem ggX9_grade_X9_isQuestion : GoodIn wsX9_grade wsX9_isQuestion := goodIn_r _ [5] (by decide +kernel) (by decide +kernel)
set_option maxRecDepth 20000 in
theorem gX9_grade_X9_isQuestion : GoodIn wsX9_grade (va_wsS RX9 47 yX9_isQuestion wsX9_isQuestion) := goodIn_app (goodIn_of _ (by decide +kernel)) ggX9_grade_X9_isQuestion
set_option maxRecDepth 20000 in
theorem ggX9_grade_X9_gradeOf : GoodIn wsX9_grade wsX9_gradeOf := goodIn_r _ [9, 1, 10, 11, 12, 13, 14, 15, 16, 17, 18, 19, 20, 21, 22, 23] (by decide +kernel) (by decide +kernel)
set_option maxRecDepth 20000 in
theorem gX9_grade_X9_gradeOf : GoodIn wsX9_grade (wsV RX9 50 RX9 yX9_gradeOf wsX9_gradeOf) := goodIn_app (goodIn_of _ (by decide +kernel)) ggX9_grade_X9_gradeOf
theorem dX9_grade_0 : decode cX9_grade 0 = .ok (.iload_n 1, 1) := by decide +kernel
theorem dX9_grade_1 : decode cX9_grade 1 = .ok (.invokestatic 47, 3) := by decide +kernel
theorem dX9_grade_4 : decode cX9_grade 4 = .ok (.ifCond .eq 13, 3) := by decide +kernel
theorem dX9_grade_7 : decode cX9_grade 7 = .ok (.iload_n 2, 1) := by decide +kernel
theorem dX9_grade_8 : decode cX9_grade 8 = .ok (.ifCond .lt 9, 3) := by decide +kernel
theorem dX9_grade_11 : decode cX9_grade 11 = .ok (.iload_n 2, 1) := by decide +kernel
theorem dX9_grade_12 : decode cX9_grade 12 = .ok (.bipush 23, 2) := by decide +kernel
theorem dX9_grade_14 : decode cX9_grade 14 = .ok (.if_icmp .le 5, 3) := by decide +kernel
theorem dX9_grade_17 : decode cX9_grade 17 = .ok (.iconst (-1), 1) := by decide +kernel
theorem dX9_grade_18 : decode cX9_grade 18 = .ok (.ireturn, 1) := by decide +kernel
theorem dX9_grade_19 : decode cX9_grade 19 = .ok (.iload_n 3, 1) := by decide +kernel
theorem dX9_grade_20 : decode cX9_grade 20 = .ok (.iconst (-1), 1) := by decide +kernel
theorem dX9_grade_21 : decode cX9_grade 21 = .ok (.if_icmp .lt 8, 3) := by decide +kernel
theorem dX9_grade_24 : decode cX9_grade 24 = .ok (.iload_n 3, 1) := by decide +kernel
theorem dX9_grade_25 : decode cX9_grade 25 = .ok (.iconst 3, 1) := by decide +kernel
theorem dX9_grade_26 : decode cX9_grade 26 = .ok (.if_icmp .le 6, 3) := by decide +kernel
theorem dX9_grade_29 : decode cX9_grade 29 = .ok (.bipush (-2), 2) := by decide +kernel
theorem dX9_grade_31 : decode cX9_grade 31 = .ok (.ireturn, 1) := by decide +kernel
theorem dX9_grade_32 : decode cX9_grade 32 = .ok (.aload_n 0, 1) := by decide +kernel
theorem dX9_grade_33 : decode cX9_grade 33 = .ok (.iload_n 1, 1) := by decide +kernel
theorem dX9_grade_34 : decode cX9_grade 34 = .ok (.iload_n 2, 1) := by decide +kernel
theorem dX9_grade_35 : decode cX9_grade 35 = .ok (.invokevirtual 50, 3) := by decide +kernel
theorem dX9_grade_38 : decode cX9_grade 38 = .ok (.istore 4, 2) := by decide +kernel
theorem dX9_grade_40 : decode cX9_grade 40 = .ok (.aload_n 0, 1) := by decide +kernel
theorem dX9_grade_41 : decode cX9_grade 41 = .ok (.getfield 7, 3) := by decide +kernel
theorem dX9_grade_44 : decode cX9_grade 44 = .ok (.bipush 24, 2) := by decide +kernel
theorem dX9_grade_46 : decode cX9_grade 46 = .ok (.iload_n 1, 1) := by decide +kernel
theorem dX9_grade_47 : decode cX9_grade 47 = .ok (.imul, 1) := by decide +kernel
theorem dX9_grade_48 : decode cX9_grade 48 = .ok (.iload_n 2, 1) := by decide +kernel
theorem dX9_grade_49 : decode cX9_grade 49 = .ok (.iadd, 1) := by decide +kernel
theorem dX9_grade_50 : decode cX9_grade 50 = .ok (.iload_n 3, 1) := by decide +kernel
theorem dX9_grade_51 : decode cX9_grade 51 = .ok (.iconst 1, 1) := by decide +kernel
theorem dX9_grade_52 : decode cX9_grade 52 = .ok (.iadd, 1) := by decide +kernel
theorem dX9_grade_53 : decode cX9_grade 53 = .ok (.iastore, 1) := by decide +kernel
theorem dX9_grade_54 : decode cX9_grade 54 = .ok (.iload 4, 2) := by decide +kernel
theorem dX9_grade_56 : decode cX9_grade 56 = .ok (.bipush 10, 2) := by decide +kernel
theorem dX9_grade_58 : decode cX9_grade 58 = .ok (.iadd, 1) := by decide +kernel
theorem dX9_grade_59 : decode cX9_grade 59 = .ok (.ireturn, 1) := by decide +kernel
set_option maxRecDepth 20000 in
theorem ggX9_find_X9_size : GoodIn wsX9_find wsX9_size := goodIn_r _ [5, 6, 12, 13, 14, 15, 16, 17, 18, 19, 20, 21, 22, 23, 24, 25] (by decide +kernel) (by decide +kernel)
set_option maxRecDepth 20000 in
theorem gX9_find_X9_size : GoodIn wsX9_find (wsV RX9 54 RX9 yX9_size wsX9_size) := goodIn_app (goodIn_of _ (by decide +kernel)) ggX9_find_X9_size
set_option maxRecDepth 20000 in
theorem ggX9_find_X9_doc : GoodIn wsX9_find wsX9_doc := goodIn_r _ [10, 11, 12, 13, 14, 15, 16, 17, 18, 19, 20, 21, 22, 23, 24, 25] (by decide +kernel) (by decide +kernel)
set_option maxRecDepth 20000 in
theorem gX9_find_X9_doc : GoodIn wsX9_find (wsV RX9 57 RX9 yX9_doc wsX9_doc) := goodIn_app (goodIn_of _ (by decide +kernel)) ggX9_find_X9_doc
theorem dX9_find_0 : decode cX9_find 0 = .ok (.iconst 0, 1) := by decide +kernel
theorem dX9_find_1 : decode cX9_find 1 = .ok (.istore 4, 2) := by decide +kernel
theorem dX9_find_3 : decode cX9_find 3 = .ok (.iload 4, 2) := by decide +kernel
theorem dX9_find_5 : decode cX9_find 5 = .ok (.aload_n 0, 1) := by decide +kernel
theorem dX9_find_6 : decode cX9_find 6 = .ok (.iload_n 1, 1) := by decide +kernel
theorem dX9_find_7 : decode cX9_find 7 = .ok (.iload_n 2, 1) := by decide +kernel
theorem dX9_find_8 : decode cX9_find 8 = .ok (.invokevirtual 54, 3) := by decide +kernel
theorem dX9_find_11 : decode cX9_find 11 = .ok (.if_icmp .ge 21, 3) := by decide +kernel
theorem dX9_find_14 : decode cX9_find 14 = .ok (.aload_n 0, 1) := by decide +kernel
theorem dX9_find_15 : decode cX9_find 15 = .ok (.iload_n 1, 1) := by decide +kernel
theorem dX9_find_16 : decode cX9_find 16 = .ok (.iload_n 2, 1) := by decide +kernel
theorem dX9_find_17 : decode cX9_find 17 = .ok (.iload 4, 2) := by decide +kernel
theorem dX9_find_19 : decode cX9_find 19 = .ok (.invokevirtual 57, 3) := by decide +kernel
theorem dX9_find_22 : decode cX9_find 22 = .ok (.iload_n 3, 1) := by decide +kernel
theorem dX9_find_23 : decode cX9_find 23 = .ok (.if_icmp .eq 9, 3) := by decide +kernel
theorem dX9_find_26 : decode cX9_find 26 = .ok (.iinc 4 1, 3) := by decide +kernel
theorem dX9_find_29 : decode cX9_find 29 = .ok (.goto (-26), 3) := by decide +kernel
theorem dX9_find_32 : decode cX9_find 32 = .ok (.iload 4, 2) := by decide +kernel
theorem dX9_find_34 : decode cX9_find 34 = .ok (.ireturn, 1) := by decide +kernel
set_option maxRecDepth 20000 in
theorem ggX9_rank_X9_isRanker : GoodIn wsX9_rank wsX9_isRanker := goodIn_r _ [7] (by decide +kernel) (by decide +kernel)
set_option maxRecDepth 20000 in
theorem gX9_rank_X9_isRanker : GoodIn wsX9_rank (va_wsS RX9 43 yX9_isRanker wsX9_isRanker) := goodIn_app (goodIn_of _ (by decide +kernel)) ggX9_rank_X9_isRanker
set_option maxRecDepth 20000 in
theorem ggX9_rank_X9_isQuestion : GoodIn wsX9_rank wsX9_isQuestion := goodIn_r _ [10] (by decide +kernel) (by decide +kernel)
set_option maxRecDepth 20000 in
theorem gX9_rank_X9_isQuestion : GoodIn wsX9_rank (va_wsS RX9 47 yX9_isQuestion wsX9_isQuestion) := goodIn_app (goodIn_of _ (by decide +kernel)) ggX9_rank_X9_isQuestion
set_option maxRecDepth 20000 in
theorem ggX9_rank_X9_find : GoodIn wsX9_rank wsX9_find := goodIn_r _ [14, 15, 16, 17, 6, 18, 2, 19, 20, 21, 22, 3, 23, 24, 25, 26, 27, 28, 29, 30, 31, 32, 33, 34, 35, 36] (by decide +kernel) (by decide +kernel)
set_option maxRecDepth 20000 in
theorem gX9_rank_X9_find : GoodIn wsX9_rank (wsV RX9 61 RX9 yX9_find wsX9_find) := goodIn_app (goodIn_of _ (by decide +kernel)) ggX9_rank_X9_find
theorem dX9_rank_0 : decode cX9_rank 0 = .ok (.iload_n 1, 1) := by decide +kernel
theorem dX9_rank_1 : decode cX9_rank 1 = .ok (.invokestatic 43, 3) := by decide +kernel
theorem dX9_rank_4 : decode cX9_rank 4 = .ok (.ifCond .eq 20, 3) := by decide +kernel
theorem dX9_rank_7 : decode cX9_rank 7 = .ok (.iload_n 2, 1) := by decide +kernel
theorem dX9_rank_8 : decode cX9_rank 8 = .ok (.invokestatic 47, 3) := by decide +kernel
theorem dX9_rank_11 : decode cX9_rank 11 = .ok (.ifCond .eq 13, 3) := by decide +kernel
theorem dX9_rank_14 : decode cX9_rank 14 = .ok (.iload_n 3, 1) := by decide +kernel
theorem dX9_rank_15 : decode cX9_rank 15 = .ok (.ifCond .lt 9, 3) := by decide +kernel
theorem dX9_rank_18 : decode cX9_rank 18 = .ok (.iload_n 3, 1) := by decide +kernel
theorem dX9_rank_19 : decode cX9_rank 19 = .ok (.bipush 23, 2) := by decide +kernel
theorem dX9_rank_21 : decode cX9_rank 21 = .ok (.if_icmp .le 5, 3) := by decide +kernel
theorem dX9_rank_24 : decode cX9_rank 24 = .ok (.iconst (-1), 1) := by decide +kernel
theorem dX9_rank_25 : decode cX9_rank 25 = .ok (.ireturn, 1) := by decide +kernel
theorem dX9_rank_26 : decode cX9_rank 26 = .ok (.bipush 8, 2) := by decide +kernel
theorem dX9_rank_28 : decode cX9_rank 28 = .ok (.iload_n 1, 1) := by decide +kernel
theorem dX9_rank_29 : decode cX9_rank 29 = .ok (.imul, 1) := by decide +kernel
theorem dX9_rank_30 : decode cX9_rank 30 = .ok (.iload_n 2, 1) := by decide +kernel
theorem dX9_rank_31 : decode cX9_rank 31 = .ok (.iadd, 1) := by decide +kernel
theorem dX9_rank_32 : decode cX9_rank 32 = .ok (.istore 4, 2) := by decide +kernel
theorem dX9_rank_34 : decode cX9_rank 34 = .ok (.aload_n 0, 1) := by decide +kernel
theorem dX9_rank_35 : decode cX9_rank 35 = .ok (.getfield 19, 3) := by decide +kernel
theorem dX9_rank_38 : decode cX9_rank 38 = .ok (.iload 4, 2) := by decide +kernel
theorem dX9_rank_40 : decode cX9_rank 40 = .ok (.baload, 1) := by decide +kernel
theorem dX9_rank_41 : decode cX9_rank 41 = .ok (.ifCond .eq 23, 3) := by decide +kernel
theorem dX9_rank_44 : decode cX9_rank 44 = .ok (.aload_n 0, 1) := by decide +kernel
theorem dX9_rank_45 : decode cX9_rank 45 = .ok (.iload_n 1, 1) := by decide +kernel
theorem dX9_rank_46 : decode cX9_rank 46 = .ok (.iload_n 2, 1) := by decide +kernel
theorem dX9_rank_47 : decode cX9_rank 47 = .ok (.iload_n 3, 1) := by decide +kernel
theorem dX9_rank_48 : decode cX9_rank 48 = .ok (.invokevirtual 61, 3) := by decide +kernel
theorem dX9_rank_51 : decode cX9_rank 51 = .ok (.aload_n 0, 1) := by decide +kernel
theorem dX9_rank_52 : decode cX9_rank 52 = .ok (.getfield 16, 3) := by decide +kernel
theorem dX9_rank_55 : decode cX9_rank 55 = .ok (.iload 4, 2) := by decide +kernel
theorem dX9_rank_57 : decode cX9_rank 57 = .ok (.iaload, 1) := by decide +kernel
theorem dX9_rank_58 : decode cX9_rank 58 = .ok (.if_icmp .ge 6, 3) := by decide +kernel
theorem dX9_rank_61 : decode cX9_rank 61 = .ok (.bipush (-3), 2) := by decide +kernel
theorem dX9_rank_63 : decode cX9_rank 63 = .ok (.ireturn, 1) := by decide +kernel
theorem dX9_rank_64 : decode cX9_rank 64 = .ok (.aload_n 0, 1) := by decide +kernel
theorem dX9_rank_65 : decode cX9_rank 65 = .ok (.getfield 19, 3) := by decide +kernel
theorem dX9_rank_68 : decode cX9_rank 68 = .ok (.iload 4, 2) := by decide +kernel
theorem dX9_rank_70 : decode cX9_rank 70 = .ok (.baload, 1) := by decide +kernel
theorem dX9_rank_71 : decode cX9_rank 71 = .ok (.ifCond .eq 18, 3) := by decide +kernel
theorem dX9_rank_74 : decode cX9_rank 74 = .ok (.aload_n 0, 1) := by decide +kernel
theorem dX9_rank_75 : decode cX9_rank 75 = .ok (.getfield 16, 3) := by decide +kernel
theorem dX9_rank_78 : decode cX9_rank 78 = .ok (.iload 4, 2) := by decide +kernel
theorem dX9_rank_80 : decode cX9_rank 80 = .ok (.iaload, 1) := by decide +kernel
theorem dX9_rank_81 : decode cX9_rank 81 = .ok (.bipush 16, 2) := by decide +kernel
theorem dX9_rank_83 : decode cX9_rank 83 = .ok (.if_icmp .ne 6, 3) := by decide +kernel
theorem dX9_rank_86 : decode cX9_rank 86 = .ok (.bipush (-4), 2) := by decide +kernel
theorem dX9_rank_88 : decode cX9_rank 88 = .ok (.ireturn, 1) := by decide +kernel
theorem dX9_rank_89 : decode cX9_rank 89 = .ok (.aload_n 0, 1) := by decide +kernel
theorem dX9_rank_90 : decode cX9_rank 90 = .ok (.getfield 16, 3) := by decide +kernel
theorem dX9_rank_93 : decode cX9_rank 93 = .ok (.iload 4, 2) := by decide +kernel
theorem dX9_rank_95 : decode cX9_rank 95 = .ok (.aload_n 0, 1) := by decide +kernel
theorem dX9_rank_96 : decode cX9_rank 96 = .ok (.getfield 19, 3) := by decide +kernel
theorem dX9_rank_99 : decode cX9_rank 99 = .ok (.iload 4, 2) := by decide +kernel
theorem dX9_rank_101 : decode cX9_rank 101 = .ok (.baload, 1) := by decide +kernel
theorem dX9_rank_102 : decode cX9_rank 102 = .ok (.ifCond .eq 13, 3) := by decide +kernel
theorem dX9_rank_105 : decode cX9_rank 105 = .ok (.aload_n 0, 1) := by decide +kernel
theorem dX9_rank_106 : decode cX9_rank 106 = .ok (.getfield 16, 3) := by decide +kernel
theorem dX9_rank_109 : decode cX9_rank 109 = .ok (.iload 4, 2) := by decide +kernel
theorem dX9_rank_111 : decode cX9_rank 111 = .ok (.iaload, 1) := by decide +kernel
theorem dX9_rank_112 : decode cX9_rank 112 = .ok (.goto 4, 3) := by decide +kernel
theorem dX9_rank_115 : decode cX9_rank 115 = .ok (.iconst 0, 1) := by decide +kernel
theorem dX9_rank_116 : decode cX9_rank 116 = .ok (.iastore, 1) := by decide +kernel
theorem dX9_rank_117 : decode cX9_rank 117 = .ok (.aload_n 0, 1) := by decide +kernel
theorem dX9_rank_118 : decode cX9_rank 118 = .ok (.getfield 19, 3) := by decide +kernel
theorem dX9_rank_121 : decode cX9_rank 121 = .ok (.iload 4, 2) := by decide +kernel
theorem dX9_rank_123 : decode cX9_rank 123 = .ok (.iconst 1, 1) := by decide +kernel
theorem dX9_rank_124 : decode cX9_rank 124 = .ok (.bastore, 1) := by decide +kernel
theorem dX9_rank_125 : decode cX9_rank 125 = .ok (.aload_n 0, 1) := by decide +kernel
theorem dX9_rank_126 : decode cX9_rank 126 = .ok (.getfield 13, 3) := by decide +kernel
theorem dX9_rank_129 : decode cX9_rank 129 = .ok (.bipush 16, 2) := by decide +kernel
theorem dX9_rank_131 : decode cX9_rank 131 = .ok (.iload 4, 2) := by decide +kernel
theorem dX9_rank_133 : decode cX9_rank 133 = .ok (.imul, 1) := by decide +kernel
theorem dX9_rank_134 : decode cX9_rank 134 = .ok (.aload_n 0, 1) := by decide +kernel
theorem dX9_rank_135 : decode cX9_rank 135 = .ok (.getfield 16, 3) := by decide +kernel
theorem dX9_rank_138 : decode cX9_rank 138 = .ok (.iload 4, 2) := by decide +kernel
theorem dX9_rank_140 : decode cX9_rank 140 = .ok (.iaload, 1) := by decide +kernel
theorem dX9_rank_141 : decode cX9_rank 141 = .ok (.iadd, 1) := by decide +kernel
theorem dX9_rank_142 : decode cX9_rank 142 = .ok (.iload_n 3, 1) := by decide +kernel
theorem dX9_rank_143 : decode cX9_rank 143 = .ok (.iastore, 1) := by decide +kernel
theorem dX9_rank_144 : decode cX9_rank 144 = .ok (.aload_n 0, 1) := by decide +kernel
theorem dX9_rank_145 : decode cX9_rank 145 = .ok (.getfield 16, 3) := by decide +kernel
theorem dX9_rank_148 : decode cX9_rank 148 = .ok (.iload 4, 2) := by decide +kernel
theorem dX9_rank_150 : decode cX9_rank 150 = .ok (.dup2, 1) := by decide +kernel
theorem dX9_rank_151 : decode cX9_rank 151 = .ok (.iaload, 1) := by decide +kernel
theorem dX9_rank_152 : decode cX9_rank 152 = .ok (.iconst 1, 1) := by decide +kernel
theorem dX9_rank_153 : decode cX9_rank 153 = .ok (.iadd, 1) := by decide +kernel
theorem dX9_rank_154 : decode cX9_rank 154 = .ok (.iastore, 1) := by decide +kernel
theorem dX9_rank_155 : decode cX9_rank 155 = .ok (.aload_n 0, 1) := by decide +kernel
theorem dX9_rank_156 : decode cX9_rank 156 = .ok (.getfield 16, 3) := by decide +kernel
theorem dX9_rank_159 : decode cX9_rank 159 = .ok (.iload 4, 2) := by decide +kernel
theorem dX9_rank_161 : decode cX9_rank 161 = .ok (.iaload, 1) := by decide +kernel
theorem dX9_rank_162 : decode cX9_rank 162 = .ok (.ireturn, 1) := by decide +kernel
set_option maxRecDepth 20000 in
theorem ggX9_empty_X9_isRanker : GoodIn wsX9_empty wsX9_isRanker := goodIn_r _ [6] (by decide +kernel) (by decide +kernel)
set_option maxRecDepth 20000 in
theorem gX9_empty_X9_isRanker : GoodIn wsX9_empty (va_wsS RX9 43 yX9_isRanker wsX9_isRanker) := goodIn_app (goodIn_of _ (by decide +kernel)) ggX9_empty_X9_isRanker
set_option maxRecDepth 20000 in
theorem ggX9_empty_X9_isQuestion : GoodIn wsX9_empty wsX9_isQuestion := goodIn_r _ [9] (by decide +kernel) (by decide +kernel)
set_option maxRecDepth 20000 in
theorem gX9_empty_X9_isQuestion : GoodIn wsX9_empty (va_wsS RX9 47 yX9_isQuestion wsX9_isQuestion) := goodIn_app (goodIn_of _ (by decide +kernel)) ggX9_empty_X9_isQuestion
theorem dX9_empty_0 : decode cX9_empty 0 = .ok (.iload_n 1, 1) := by decide +kernel
theorem dX9_empty_1 : decode cX9_empty 1 = .ok (.invokestatic 43, 3) := by decide +kernel
theorem dX9_empty_4 : decode cX9_empty 4 = .ok (.ifCond .eq 10, 3) := by decide +kernel
theorem dX9_empty_7 : decode cX9_empty 7 = .ok (.iload_n 2, 1) := by decide +kernel
theorem dX9_empty_8 : decode cX9_empty 8 = .ok (.invokestatic 47, 3) := by decide +kernel
theorem dX9_empty_11 : decode cX9_empty 11 = .ok (.ifCond .ne 5, 3) := by decide +kernel
theorem dX9_empty_14 : decode cX9_empty 14 = .ok (.iconst (-1), 1) := by decide +kernel
theorem dX9_empty_15 : decode cX9_empty 15 = .ok (.ireturn, 1) := by decide +kernel
theorem dX9_empty_16 : decode cX9_empty 16 = .ok (.bipush 8, 2) := by decide +kernel
theorem dX9_empty_18 : decode cX9_empty 18 = .ok (.iload_n 1, 1) := by decide +kernel
theorem dX9_empty_19 : decode cX9_empty 19 = .ok (.imul, 1) := by decide +kernel
theorem dX9_empty_20 : decode cX9_empty 20 = .ok (.iload_n 2, 1) := by decide +kernel
theorem dX9_empty_21 : decode cX9_empty 21 = .ok (.iadd, 1) := by decide +kernel
theorem dX9_empty_22 : decode cX9_empty 22 = .ok (.istore_n 3, 1) := by decide +kernel
theorem dX9_empty_23 : decode cX9_empty 23 = .ok (.aload_n 0, 1) := by decide +kernel
theorem dX9_empty_24 : decode cX9_empty 24 = .ok (.getfield 19, 3) := by decide +kernel
theorem dX9_empty_27 : decode cX9_empty 27 = .ok (.iload_n 3, 1) := by decide +kernel
theorem dX9_empty_28 : decode cX9_empty 28 = .ok (.baload, 1) := by decide +kernel
theorem dX9_empty_29 : decode cX9_empty 29 = .ok (.ifCond .eq 12, 3) := by decide +kernel
theorem dX9_empty_32 : decode cX9_empty 32 = .ok (.aload_n 0, 1) := by decide +kernel
theorem dX9_empty_33 : decode cX9_empty 33 = .ok (.getfield 16, 3) := by decide +kernel
theorem dX9_empty_36 : decode cX9_empty 36 = .ok (.iload_n 3, 1) := by decide +kernel
theorem dX9_empty_37 : decode cX9_empty 37 = .ok (.iaload, 1) := by decide +kernel
theorem dX9_empty_38 : decode cX9_empty 38 = .ok (.goto 4, 3) := by decide +kernel
theorem dX9_empty_41 : decode cX9_empty 41 = .ok (.iconst 0, 1) := by decide +kernel
theorem dX9_empty_42 : decode cX9_empty 42 = .ok (.istore 4, 2) := by decide +kernel
theorem dX9_empty_44 : decode cX9_empty 44 = .ok (.aload_n 0, 1) := by decide +kernel
theorem dX9_empty_45 : decode cX9_empty 45 = .ok (.getfield 19, 3) := by decide +kernel
theorem dX9_empty_48 : decode cX9_empty 48 = .ok (.iload_n 3, 1) := by decide +kernel
theorem dX9_empty_49 : decode cX9_empty 49 = .ok (.iconst 1, 1) := by decide +kernel
theorem dX9_empty_50 : decode cX9_empty 50 = .ok (.bastore, 1) := by decide +kernel
theorem dX9_empty_51 : decode cX9_empty 51 = .ok (.aload_n 0, 1) := by decide +kernel
theorem dX9_empty_52 : decode cX9_empty 52 = .ok (.getfield 16, 3) := by decide +kernel
theorem dX9_empty_55 : decode cX9_empty 55 = .ok (.iload_n 3, 1) := by decide +kernel
theorem dX9_empty_56 : decode cX9_empty 56 = .ok (.iconst 0, 1) := by decide +kernel
theorem dX9_empty_57 : decode cX9_empty 57 = .ok (.iastore, 1) := by decide +kernel
theorem dX9_empty_58 : decode cX9_empty 58 = .ok (.iload 4, 2) := by decide +kernel
theorem dX9_empty_60 : decode cX9_empty 60 = .ok (.ireturn, 1) := by decide +kernel
set_option maxRecDepth 20000 in
theorem ggX9_drop_X9_isRow : GoodIn wsX9_drop wsX9_isRow := goodIn_r _ [7, 1, 8, 9, 6, 10, 11, 12, 13, 14, 15, 16, 17, 18, 19, 20, 21, 22, 23, 24, 25, 26, 27] (by decide +kernel) (by decide +kernel)
set_option maxRecDepth 20000 in
theorem gX9_drop_X9_isRow : GoodIn wsX9_drop (wsV RX9 64 RX9 yX9_isRow wsX9_isRow) := goodIn_app (goodIn_of _ (by decide +kernel)) ggX9_drop_X9_isRow
theorem dX9_drop_0 : decode cX9_drop 0 = .ok (.aload_n 0, 1) := by decide +kernel
theorem dX9_drop_1 : decode cX9_drop 1 = .ok (.iload_n 1, 1) := by decide +kernel
theorem dX9_drop_2 : decode cX9_drop 2 = .ok (.iload_n 2, 1) := by decide +kernel
theorem dX9_drop_3 : decode cX9_drop 3 = .ok (.invokevirtual 64, 3) := by decide +kernel
theorem dX9_drop_6 : decode cX9_drop 6 = .ok (.ifCond .ne 5, 3) := by decide +kernel
theorem dX9_drop_9 : decode cX9_drop 9 = .ok (.iconst (-1), 1) := by decide +kernel
theorem dX9_drop_10 : decode cX9_drop 10 = .ok (.ireturn, 1) := by decide +kernel
theorem dX9_drop_11 : decode cX9_drop 11 = .ok (.aload_n 0, 1) := by decide +kernel
theorem dX9_drop_12 : decode cX9_drop 12 = .ok (.getfield 19, 3) := by decide +kernel
theorem dX9_drop_15 : decode cX9_drop 15 = .ok (.bipush 8, 2) := by decide +kernel
theorem dX9_drop_17 : decode cX9_drop 17 = .ok (.iload_n 1, 1) := by decide +kernel
theorem dX9_drop_18 : decode cX9_drop 18 = .ok (.imul, 1) := by decide +kernel
theorem dX9_drop_19 : decode cX9_drop 19 = .ok (.iload_n 2, 1) := by decide +kernel
theorem dX9_drop_20 : decode cX9_drop 20 = .ok (.iadd, 1) := by decide +kernel
theorem dX9_drop_21 : decode cX9_drop 21 = .ok (.iconst 0, 1) := by decide +kernel
theorem dX9_drop_22 : decode cX9_drop 22 = .ok (.bastore, 1) := by decide +kernel
theorem dX9_drop_23 : decode cX9_drop 23 = .ok (.aload_n 0, 1) := by decide +kernel
theorem dX9_drop_24 : decode cX9_drop 24 = .ok (.getfield 16, 3) := by decide +kernel
theorem dX9_drop_27 : decode cX9_drop 27 = .ok (.bipush 8, 2) := by decide +kernel
theorem dX9_drop_29 : decode cX9_drop 29 = .ok (.iload_n 1, 1) := by decide +kernel
theorem dX9_drop_30 : decode cX9_drop 30 = .ok (.imul, 1) := by decide +kernel
theorem dX9_drop_31 : decode cX9_drop 31 = .ok (.iload_n 2, 1) := by decide +kernel
theorem dX9_drop_32 : decode cX9_drop 32 = .ok (.iadd, 1) := by decide +kernel
theorem dX9_drop_33 : decode cX9_drop 33 = .ok (.iconst 0, 1) := by decide +kernel
theorem dX9_drop_34 : decode cX9_drop 34 = .ok (.iastore, 1) := by decide +kernel
theorem dX9_drop_35 : decode cX9_drop 35 = .ok (.iconst 1, 1) := by decide +kernel
theorem dX9_drop_36 : decode cX9_drop 36 = .ok (.ireturn, 1) := by decide +kernel
set_option maxRecDepth 20000 in
theorem ggX9_at_X9_isRow : GoodIn wsX9_at wsX9_isRow := goodIn_r _ [5, 6, 7, 8, 4, 9, 10, 11, 12, 23, 24, 25, 26, 27, 28, 29, 30, 31, 32, 33, 34, 35, 36] (by decide +kernel) (by decide +kernel)
set_option maxRecDepth 20000 in
theorem gX9_at_X9_isRow : GoodIn wsX9_at (wsV RX9 64 RX9 yX9_isRow wsX9_isRow) := goodIn_app (goodIn_of _ (by decide +kernel)) ggX9_at_X9_isRow
set_option maxRecDepth 20000 in
theorem ggX9_at_X9_size : GoodIn wsX9_at wsX9_size := goodIn_r _ [16, 17, 23, 24, 25, 26, 27, 28, 29, 30, 31, 32, 33, 34, 35, 36] (by decide +kernel) (by decide +kernel)
set_option maxRecDepth 20000 in
theorem gX9_at_X9_size : GoodIn wsX9_at (wsV RX9 54 RX9 yX9_size wsX9_size) := goodIn_app (goodIn_of _ (by decide +kernel)) ggX9_at_X9_size
set_option maxRecDepth 20000 in
theorem ggX9_at_X9_doc : GoodIn wsX9_at wsX9_doc := goodIn_r _ [21, 22, 23, 24, 25, 26, 27, 28, 29, 30, 31, 32, 33, 34, 35, 36] (by decide +kernel) (by decide +kernel)
set_option maxRecDepth 20000 in
theorem gX9_at_X9_doc : GoodIn wsX9_at (wsV RX9 57 RX9 yX9_doc wsX9_doc) := goodIn_app (goodIn_of _ (by decide +kernel)) ggX9_at_X9_doc
theorem dX9_at_0 : decode cX9_at 0 = .ok (.aload_n 0, 1) := by decide +kernel
theorem dX9_at_1 : decode cX9_at 1 = .ok (.iload_n 1, 1) := by decide +kernel
theorem dX9_at_2 : decode cX9_at 2 = .ok (.iload_n 2, 1) := by decide +kernel
theorem dX9_at_3 : decode cX9_at 3 = .ok (.invokevirtual 64, 3) := by decide +kernel
theorem dX9_at_6 : decode cX9_at 6 = .ok (.ifCond .ne 5, 3) := by decide +kernel
theorem dX9_at_9 : decode cX9_at 9 = .ok (.iconst (-1), 1) := by decide +kernel
theorem dX9_at_10 : decode cX9_at 10 = .ok (.ireturn, 1) := by decide +kernel
theorem dX9_at_11 : decode cX9_at 11 = .ok (.iload_n 3, 1) := by decide +kernel
theorem dX9_at_12 : decode cX9_at 12 = .ok (.iconst 1, 1) := by decide +kernel
theorem dX9_at_13 : decode cX9_at 13 = .ok (.if_icmp .lt 13, 3) := by decide +kernel
theorem dX9_at_16 : decode cX9_at 16 = .ok (.iload_n 3, 1) := by decide +kernel
theorem dX9_at_17 : decode cX9_at 17 = .ok (.aload_n 0, 1) := by decide +kernel
theorem dX9_at_18 : decode cX9_at 18 = .ok (.iload_n 1, 1) := by decide +kernel
theorem dX9_at_19 : decode cX9_at 19 = .ok (.iload_n 2, 1) := by decide +kernel
theorem dX9_at_20 : decode cX9_at 20 = .ok (.invokevirtual 54, 3) := by decide +kernel
theorem dX9_at_23 : decode cX9_at 23 = .ok (.if_icmp .le 8, 3) := by decide +kernel
theorem dX9_at_26 : decode cX9_at 26 = .ok (.bipush (-2), 2) := by decide +kernel
theorem dX9_at_28 : decode cX9_at 28 = .ok (.goto 12, 3) := by decide +kernel
theorem dX9_at_31 : decode cX9_at 31 = .ok (.aload_n 0, 1) := by decide +kernel
theorem dX9_at_32 : decode cX9_at 32 = .ok (.iload_n 1, 1) := by decide +kernel
theorem dX9_at_33 : decode cX9_at 33 = .ok (.iload_n 2, 1) := by decide +kernel
theorem dX9_at_34 : decode cX9_at 34 = .ok (.iload_n 3, 1) := by decide +kernel
theorem dX9_at_35 : decode cX9_at 35 = .ok (.iconst 1, 1) := by decide +kernel
theorem dX9_at_36 : decode cX9_at 36 = .ok (.isub, 1) := by decide +kernel
theorem dX9_at_37 : decode cX9_at 37 = .ok (.invokevirtual 57, 3) := by decide +kernel
theorem dX9_at_40 : decode cX9_at 40 = .ok (.ireturn, 1) := by decide +kernel
set_option maxRecDepth 20000 in
theorem ggX9_graded_X9_gradeOf : GoodIn wsX9_graded wsX9_gradeOf := goodIn_r _ [5, 6, 7, 8, 9, 10, 11, 12, 13, 14, 15, 16, 17, 18, 19, 20] (by decide +kernel) (by decide +kernel)
set_option maxRecDepth 20000 in
theorem gX9_graded_X9_gradeOf : GoodIn wsX9_graded (wsV RX9 50 RX9 yX9_gradeOf wsX9_gradeOf) := goodIn_app (goodIn_of _ (by decide +kernel)) ggX9_graded_X9_gradeOf
theorem dX9_graded_0 : decode cX9_graded 0 = .ok (.iconst 0, 1) := by decide +kernel
theorem dX9_graded_1 : decode cX9_graded 1 = .ok (.istore 4, 2) := by decide +kernel
theorem dX9_graded_3 : decode cX9_graded 3 = .ok (.iconst 0, 1) := by decide +kernel
theorem dX9_graded_4 : decode cX9_graded 4 = .ok (.istore 5, 2) := by decide +kernel
theorem dX9_graded_6 : decode cX9_graded 6 = .ok (.iload 5, 2) := by decide +kernel
theorem dX9_graded_8 : decode cX9_graded 8 = .ok (.bipush 24, 2) := by decide +kernel
theorem dX9_graded_10 : decode cX9_graded 10 = .ok (.if_icmp .ge 41, 3) := by decide +kernel
theorem dX9_graded_13 : decode cX9_graded 13 = .ok (.iload 4, 2) := by decide +kernel
theorem dX9_graded_15 : decode cX9_graded 15 = .ok (.aload_n 0, 1) := by decide +kernel
theorem dX9_graded_16 : decode cX9_graded 16 = .ok (.iload_n 1, 1) := by decide +kernel
theorem dX9_graded_17 : decode cX9_graded 17 = .ok (.iload 5, 2) := by decide +kernel
theorem dX9_graded_19 : decode cX9_graded 19 = .ok (.invokevirtual 50, 3) := by decide +kernel
theorem dX9_graded_22 : decode cX9_graded 22 = .ok (.iload_n 2, 1) := by decide +kernel
theorem dX9_graded_23 : decode cX9_graded 23 = .ok (.if_icmp .lt 18, 3) := by decide +kernel
theorem dX9_graded_26 : decode cX9_graded 26 = .ok (.aload_n 0, 1) := by decide +kernel
theorem dX9_graded_27 : decode cX9_graded 27 = .ok (.iload_n 1, 1) := by decide +kernel
theorem dX9_graded_28 : decode cX9_graded 28 = .ok (.iload 5, 2) := by decide +kernel
theorem dX9_graded_30 : decode cX9_graded 30 = .ok (.invokevirtual 50, 3) := by decide +kernel
theorem dX9_graded_33 : decode cX9_graded 33 = .ok (.iload_n 3, 1) := by decide +kernel
theorem dX9_graded_34 : decode cX9_graded 34 = .ok (.if_icmp .gt 7, 3) := by decide +kernel
theorem dX9_graded_37 : decode cX9_graded 37 = .ok (.iconst 1, 1) := by decide +kernel
theorem dX9_graded_38 : decode cX9_graded 38 = .ok (.goto 4, 3) := by decide +kernel
theorem dX9_graded_41 : decode cX9_graded 41 = .ok (.iconst 0, 1) := by decide +kernel
theorem dX9_graded_42 : decode cX9_graded 42 = .ok (.iadd, 1) := by decide +kernel
theorem dX9_graded_43 : decode cX9_graded 43 = .ok (.istore 4, 2) := by decide +kernel
theorem dX9_graded_45 : decode cX9_graded 45 = .ok (.iinc 5 1, 3) := by decide +kernel
theorem dX9_graded_48 : decode cX9_graded 48 = .ok (.goto (-42), 3) := by decide +kernel
theorem dX9_graded_51 : decode cX9_graded 51 = .ok (.iload 4, 2) := by decide +kernel
theorem dX9_graded_53 : decode cX9_graded 53 = .ok (.ireturn, 1) := by decide +kernel
set_option maxRecDepth 20000 in
theorem ggX9_rs_X9_graded : GoodIn wsX9_rs wsX9_graded := goodIn_r _ [5, 6, 7, 8, 4, 9, 10, 11, 12, 13, 14, 15, 16, 17, 18, 19, 20, 21, 22, 23, 24] (by decide +kernel) (by decide +kernel)
set_option maxRecDepth 20000 in
theorem gX9_rs_X9_graded : GoodIn wsX9_rs (wsV RX9 68 RX9 yX9_graded wsX9_graded) := goodIn_app (goodIn_of _ (by decide +kernel)) ggX9_rs_X9_graded
theorem dX9_rs_0 : decode cX9_rs 0 = .ok (.aload_n 0, 1) := by decide +kernel
theorem dX9_rs_1 : decode cX9_rs 1 = .ok (.iload_n 1, 1) := by decide +kernel
theorem dX9_rs_2 : decode cX9_rs 2 = .ok (.iconst 1, 1) := by decide +kernel
theorem dX9_rs_3 : decode cX9_rs 3 = .ok (.iconst 3, 1) := by decide +kernel
theorem dX9_rs_4 : decode cX9_rs 4 = .ok (.invokevirtual 68, 3) := by decide +kernel
theorem dX9_rs_7 : decode cX9_rs 7 = .ok (.ireturn, 1) := by decide +kernel
set_option maxRecDepth 20000 in
theorem ggX9_count_X9_isQuestion : GoodIn wsX9_count wsX9_isQuestion := goodIn_r _ [5] (by decide +kernel) (by decide +kernel)
set_option maxRecDepth 20000 in
theorem gX9_count_X9_isQuestion : GoodIn wsX9_count (va_wsS RX9 47 yX9_isQuestion wsX9_isQuestion) := goodIn_app (goodIn_of _ (by decide +kernel)) ggX9_count_X9_isQuestion
set_option maxRecDepth 20000 in
theorem ggX9_count_X9_rs : GoodIn wsX9_count wsX9_rs := goodIn_r _ [9, 10, 11, 12, 4, 13, 14, 15, 16, 17, 18, 19, 20, 21, 22, 23, 24, 25, 26, 27, 28, 29, 30, 31, 32] (by decide +kernel) (by decide +kernel)
set_option maxRecDepth 20000 in
theorem gX9_count_X9_rs : GoodIn wsX9_count (wsV RX9 71 RX9 yX9_rs wsX9_rs) := goodIn_app (goodIn_of _ (by decide +kernel)) ggX9_count_X9_rs
set_option maxRecDepth 20000 in
theorem ggX9_count_X9_graded : GoodIn wsX9_count wsX9_graded := goodIn_r _ [13, 14, 15, 16, 4, 17, 18, 19, 20, 21, 22, 23, 24, 25, 26, 27, 28, 29, 30, 31, 32] (by decide +kernel) (by decide +kernel)
set_option maxRecDepth 20000 in
theorem gX9_count_X9_graded : GoodIn wsX9_count (wsV RX9 68 RX9 yX9_graded wsX9_graded) := goodIn_app (goodIn_of _ (by decide +kernel)) ggX9_count_X9_graded
theorem dX9_count_0 : decode cX9_count 0 = .ok (.iload_n 1, 1) := by decide +kernel
theorem dX9_count_1 : decode cX9_count 1 = .ok (.invokestatic 47, 3) := by decide +kernel
theorem dX9_count_4 : decode cX9_count 4 = .ok (.ifCond .ne 5, 3) := by decide +kernel
theorem dX9_count_7 : decode cX9_count 7 = .ok (.iconst (-1), 1) := by decide +kernel
theorem dX9_count_8 : decode cX9_count 8 = .ok (.ireturn, 1) := by decide +kernel
theorem dX9_count_9 : decode cX9_count 9 = .ok (.iload_n 2, 1) := by decide +kernel
theorem dX9_count_10 : decode cX9_count 10 = .ok (.iconst 2, 1) := by decide +kernel
theorem dX9_count_11 : decode cX9_count 11 = .ok (.if_icmp .ne 45, 3) := by decide +kernel
theorem dX9_count_14 : decode cX9_count 14 = .ok (.iconst 0, 1) := by decide +kernel
theorem dX9_count_15 : decode cX9_count 15 = .ok (.istore_n 3, 1) := by decide +kernel
theorem dX9_count_16 : decode cX9_count 16 = .ok (.iconst 0, 1) := by decide +kernel
theorem dX9_count_17 : decode cX9_count 17 = .ok (.istore 4, 2) := by decide +kernel
theorem dX9_count_19 : decode cX9_count 19 = .ok (.iload 4, 2) := by decide +kernel
theorem dX9_count_21 : decode cX9_count 21 = .ok (.iconst 4, 1) := by decide +kernel
theorem dX9_count_22 : decode cX9_count 22 = .ok (.if_icmp .ge 32, 3) := by decide +kernel
theorem dX9_count_25 : decode cX9_count 25 = .ok (.iload_n 3, 1) := by decide +kernel
theorem dX9_count_26 : decode cX9_count 26 = .ok (.aload_n 0, 1) := by decide +kernel
theorem dX9_count_27 : decode cX9_count 27 = .ok (.getfield 19, 3) := by decide +kernel
theorem dX9_count_30 : decode cX9_count 30 = .ok (.bipush 8, 2) := by decide +kernel
theorem dX9_count_32 : decode cX9_count 32 = .ok (.iload 4, 2) := by decide +kernel
theorem dX9_count_34 : decode cX9_count 34 = .ok (.imul, 1) := by decide +kernel
theorem dX9_count_35 : decode cX9_count 35 = .ok (.iload_n 1, 1) := by decide +kernel
theorem dX9_count_36 : decode cX9_count 36 = .ok (.iadd, 1) := by decide +kernel
theorem dX9_count_37 : decode cX9_count 37 = .ok (.baload, 1) := by decide +kernel
theorem dX9_count_38 : decode cX9_count 38 = .ok (.ifCond .eq 7, 3) := by decide +kernel
theorem dX9_count_41 : decode cX9_count 41 = .ok (.iconst 1, 1) := by decide +kernel
theorem dX9_count_42 : decode cX9_count 42 = .ok (.goto 4, 3) := by decide +kernel
theorem dX9_count_45 : decode cX9_count 45 = .ok (.iconst 0, 1) := by decide +kernel
theorem dX9_count_46 : decode cX9_count 46 = .ok (.iadd, 1) := by decide +kernel
theorem dX9_count_47 : decode cX9_count 47 = .ok (.istore_n 3, 1) := by decide +kernel
theorem dX9_count_48 : decode cX9_count 48 = .ok (.iinc 4 1, 3) := by decide +kernel
theorem dX9_count_51 : decode cX9_count 51 = .ok (.goto (-32), 3) := by decide +kernel
theorem dX9_count_54 : decode cX9_count 54 = .ok (.iload_n 3, 1) := by decide +kernel
theorem dX9_count_55 : decode cX9_count 55 = .ok (.ireturn, 1) := by decide +kernel
theorem dX9_count_56 : decode cX9_count 56 = .ok (.iload_n 2, 1) := by decide +kernel
theorem dX9_count_57 : decode cX9_count 57 = .ok (.ifCond .ne 11, 3) := by decide +kernel
theorem dX9_count_60 : decode cX9_count 60 = .ok (.aload_n 0, 1) := by decide +kernel
theorem dX9_count_61 : decode cX9_count 61 = .ok (.iload_n 1, 1) := by decide +kernel
theorem dX9_count_62 : decode cX9_count 62 = .ok (.invokevirtual 71, 3) := by decide +kernel
theorem dX9_count_65 : decode cX9_count 65 = .ok (.goto 20, 3) := by decide +kernel
theorem dX9_count_68 : decode cX9_count 68 = .ok (.iload_n 2, 1) := by decide +kernel
theorem dX9_count_69 : decode cX9_count 69 = .ok (.iconst 1, 1) := by decide +kernel
theorem dX9_count_70 : decode cX9_count 70 = .ok (.if_icmp .ne 13, 3) := by decide +kernel
theorem dX9_count_73 : decode cX9_count 73 = .ok (.aload_n 0, 1) := by decide +kernel
theorem dX9_count_74 : decode cX9_count 74 = .ok (.iload_n 1, 1) := by decide +kernel
theorem dX9_count_75 : decode cX9_count 75 = .ok (.iconst 0, 1) := by decide +kernel
theorem dX9_count_76 : decode cX9_count 76 = .ok (.iconst 0, 1) := by decide +kernel
theorem dX9_count_77 : decode cX9_count 77 = .ok (.invokevirtual 68, 3) := by decide +kernel
theorem dX9_count_80 : decode cX9_count 80 = .ok (.goto 5, 3) := by decide +kernel
theorem dX9_count_83 : decode cX9_count 83 = .ok (.bipush (-2), 2) := by decide +kernel
theorem dX9_count_85 : decode cX9_count 85 = .ok (.ireturn, 1) := by decide +kernel
theorem dX9_common_0 : decode cX9_common 0 = .ok (.lload_n 0, 1) := by decide +kernel
theorem dX9_common_1 : decode cX9_common 1 = .ok (.lconst 0, 1) := by decide +kernel
theorem dX9_common_2 : decode cX9_common 2 = .ok (.lcmp, 1) := by decide +kernel
theorem dX9_common_3 : decode cX9_common 3 = .ok (.ifCond .ge 8, 3) := by decide +kernel
theorem dX9_common_6 : decode cX9_common 6 = .ok (.lload_n 0, 1) := by decide +kernel
theorem dX9_common_7 : decode cX9_common 7 = .ok (.lneg, 1) := by decide +kernel
theorem dX9_common_8 : decode cX9_common 8 = .ok (.goto 4, 3) := by decide +kernel
theorem dX9_common_11 : decode cX9_common 11 = .ok (.lload_n 0, 1) := by decide +kernel
theorem dX9_common_12 : decode cX9_common 12 = .ok (.lstore 4, 2) := by decide +kernel
theorem dX9_common_14 : decode cX9_common 14 = .ok (.lload_n 2, 1) := by decide +kernel
theorem dX9_common_15 : decode cX9_common 15 = .ok (.lstore 6, 2) := by decide +kernel
theorem dX9_common_17 : decode cX9_common 17 = .ok (.lload 6, 2) := by decide +kernel
theorem dX9_common_19 : decode cX9_common 19 = .ok (.lconst 0, 1) := by decide +kernel
theorem dX9_common_20 : decode cX9_common 20 = .ok (.lcmp, 1) := by decide +kernel
theorem dX9_common_21 : decode cX9_common 21 = .ok (.ifCond .eq 21, 3) := by decide +kernel
theorem dX9_common_24 : decode cX9_common 24 = .ok (.lload 4, 2) := by decide +kernel
theorem dX9_common_26 : decode cX9_common 26 = .ok (.lload 6, 2) := by decide +kernel
theorem dX9_common_28 : decode cX9_common 28 = .ok (.lrem, 1) := by decide +kernel
theorem dX9_common_29 : decode cX9_common 29 = .ok (.lstore 8, 2) := by decide +kernel
theorem dX9_common_31 : decode cX9_common 31 = .ok (.lload 6, 2) := by decide +kernel
theorem dX9_common_33 : decode cX9_common 33 = .ok (.lstore 4, 2) := by decide +kernel
theorem dX9_common_35 : decode cX9_common 35 = .ok (.lload 8, 2) := by decide +kernel
theorem dX9_common_37 : decode cX9_common 37 = .ok (.lstore 6, 2) := by decide +kernel
theorem dX9_common_39 : decode cX9_common 39 = .ok (.goto (-22), 3) := by decide +kernel
theorem dX9_common_42 : decode cX9_common 42 = .ok (.lload 4, 2) := by decide +kernel
theorem dX9_common_44 : decode cX9_common 44 = .ok (.lreturn, 1) := by decide +kernel
set_option maxRecDepth 20000 in
theorem ggX9_make_X9_common : GoodIn wsX9_make wsX9_common := goodIn_r _ [6] (by decide +kernel) (by decide +kernel)
set_option maxRecDepth 20000 in
theorem gX9_make_X9_common : GoodIn wsX9_make (va_wsS RX9 78 yX9_common wsX9_common) := goodIn_app (goodIn_of _ (by decide +kernel)) ggX9_make_X9_common
theorem dX9_make_0 : decode cX9_make 0 = .ok (.lload_n 3, 1) := by decide +kernel
theorem dX9_make_1 : decode cX9_make 1 = .ok (.lconst 0, 1) := by decide +kernel
theorem dX9_make_2 : decode cX9_make 2 = .ok (.lcmp, 1) := by decide +kernel
theorem dX9_make_3 : decode cX9_make 3 = .ok (.ifCond .ne 14, 3) := by decide +kernel
theorem dX9_make_6 : decode cX9_make 6 = .ok (.aload_n 0, 1) := by decide +kernel
theorem dX9_make_7 : decode cX9_make 7 = .ok (.lconst 0, 1) := by decide +kernel
theorem dX9_make_8 : decode cX9_make 8 = .ok (.putfield 75, 3) := by decide +kernel
theorem dX9_make_11 : decode cX9_make 11 = .ok (.aload_n 0, 1) := by decide +kernel
theorem dX9_make_12 : decode cX9_make 12 = .ok (.lconst 1, 1) := by decide +kernel
theorem dX9_make_13 : decode cX9_make 13 = .ok (.putfield 27, 3) := by decide +kernel
theorem dX9_make_16 : decode cX9_make 16 = .ok (.return_, 1) := by decide +kernel
theorem dX9_make_17 : decode cX9_make 17 = .ok (.lload_n 1, 1) := by decide +kernel
theorem dX9_make_18 : decode cX9_make 18 = .ok (.lload_n 3, 1) := by decide +kernel
theorem dX9_make_19 : decode cX9_make 19 = .ok (.invokestatic 78, 3) := by decide +kernel
theorem dX9_make_22 : decode cX9_make 22 = .ok (.lstore 5, 2) := by decide +kernel
theorem dX9_make_24 : decode cX9_make 24 = .ok (.aload_n 0, 1) := by decide +kernel
theorem dX9_make_25 : decode cX9_make 25 = .ok (.lload_n 1, 1) := by decide +kernel
theorem dX9_make_26 : decode cX9_make 26 = .ok (.lload 5, 2) := by decide +kernel
theorem dX9_make_28 : decode cX9_make 28 = .ok (.ldiv, 1) := by decide +kernel
theorem dX9_make_29 : decode cX9_make 29 = .ok (.putfield 75, 3) := by decide +kernel
theorem dX9_make_32 : decode cX9_make 32 = .ok (.aload_n 0, 1) := by decide +kernel
theorem dX9_make_33 : decode cX9_make 33 = .ok (.lload_n 3, 1) := by decide +kernel
theorem dX9_make_34 : decode cX9_make 34 = .ok (.lload 5, 2) := by decide +kernel
theorem dX9_make_36 : decode cX9_make 36 = .ok (.ldiv, 1) := by decide +kernel
theorem dX9_make_37 : decode cX9_make 37 = .ok (.putfield 27, 3) := by decide +kernel
theorem dX9_make_40 : decode cX9_make 40 = .ok (.return_, 1) := by decide +kernel
set_option maxRecDepth 20000 in
theorem ggX9_plus_X9_common : GoodIn wsX9_plus wsX9_common := goodIn_r _ [6] (by decide +kernel) (by decide +kernel)
set_option maxRecDepth 20000 in
theorem gX9_plus_X9_common : GoodIn wsX9_plus (va_wsS RX9 78 yX9_common wsX9_common) := goodIn_app (goodIn_of _ (by decide +kernel)) ggX9_plus_X9_common
set_option maxRecDepth 20000 in
theorem ggX9_plus_X9_make : GoodIn wsX9_plus wsX9_make := goodIn_r _ [10, 2, 1, 3, 4, 5, 6, 11, 12, 13, 14, 15, 16, 17, 18, 19, 20, 21, 22, 23, 24] (by decide +kernel) (by decide +kernel)
set_option maxRecDepth 20000 in
theorem gX9_plus_X9_make : GoodIn wsX9_plus (wsV RX9 82 RX9 yX9_make wsX9_make) := goodIn_app (goodIn_of _ (by decide +kernel)) ggX9_plus_X9_make
theorem dX9_plus_0 : decode cX9_plus 0 = .ok (.aload_n 0, 1) := by decide +kernel
theorem dX9_plus_1 : decode cX9_plus 1 = .ok (.getfield 27, 3) := by decide +kernel
theorem dX9_plus_4 : decode cX9_plus 4 = .ok (.lload_n 3, 1) := by decide +kernel
theorem dX9_plus_5 : decode cX9_plus 5 = .ok (.invokestatic 78, 3) := by decide +kernel
theorem dX9_plus_8 : decode cX9_plus 8 = .ok (.lstore 5, 2) := by decide +kernel
theorem dX9_plus_10 : decode cX9_plus 10 = .ok (.aload_n 0, 1) := by decide +kernel
theorem dX9_plus_11 : decode cX9_plus 11 = .ok (.aload_n 0, 1) := by decide +kernel
theorem dX9_plus_12 : decode cX9_plus 12 = .ok (.getfield 75, 3) := by decide +kernel
theorem dX9_plus_15 : decode cX9_plus 15 = .ok (.lload_n 3, 1) := by decide +kernel
theorem dX9_plus_16 : decode cX9_plus 16 = .ok (.lload 5, 2) := by decide +kernel
theorem dX9_plus_18 : decode cX9_plus 18 = .ok (.ldiv, 1) := by decide +kernel
theorem dX9_plus_19 : decode cX9_plus 19 = .ok (.lmul, 1) := by decide +kernel
theorem dX9_plus_20 : decode cX9_plus 20 = .ok (.lload_n 1, 1) := by decide +kernel
theorem dX9_plus_21 : decode cX9_plus 21 = .ok (.aload_n 0, 1) := by decide +kernel
theorem dX9_plus_22 : decode cX9_plus 22 = .ok (.getfield 27, 3) := by decide +kernel
theorem dX9_plus_25 : decode cX9_plus 25 = .ok (.lload 5, 2) := by decide +kernel
theorem dX9_plus_27 : decode cX9_plus 27 = .ok (.ldiv, 1) := by decide +kernel
theorem dX9_plus_28 : decode cX9_plus 28 = .ok (.lmul, 1) := by decide +kernel
theorem dX9_plus_29 : decode cX9_plus 29 = .ok (.ladd, 1) := by decide +kernel
theorem dX9_plus_30 : decode cX9_plus 30 = .ok (.aload_n 0, 1) := by decide +kernel
theorem dX9_plus_31 : decode cX9_plus 31 = .ok (.getfield 27, 3) := by decide +kernel
theorem dX9_plus_34 : decode cX9_plus 34 = .ok (.lload 5, 2) := by decide +kernel
theorem dX9_plus_36 : decode cX9_plus 36 = .ok (.ldiv, 1) := by decide +kernel
theorem dX9_plus_37 : decode cX9_plus 37 = .ok (.lload_n 3, 1) := by decide +kernel
theorem dX9_plus_38 : decode cX9_plus 38 = .ok (.lmul, 1) := by decide +kernel
theorem dX9_plus_39 : decode cX9_plus 39 = .ok (.invokevirtual 82, 3) := by decide +kernel
theorem dX9_plus_42 : decode cX9_plus 42 = .ok (.return_, 1) := by decide +kernel
set_option maxRecDepth 20000 in
theorem ggX9_over_X9_make : GoodIn wsX9_over wsX9_make := goodIn_r _ [7, 1, 2, 8, 9, 6, 10, 11, 12, 13, 14, 15, 16, 17, 18, 19, 20, 21, 22, 23, 24] (by decide +kernel) (by decide +kernel)
set_option maxRecDepth 20000 in
theorem gX9_over_X9_make : GoodIn wsX9_over (wsV RX9 82 RX9 yX9_make wsX9_make) := goodIn_app (goodIn_of _ (by decide +kernel)) ggX9_over_X9_make
set_option maxRecDepth 20000 in
theorem ggX9_over_X9_common : GoodIn wsX9_over wsX9_common := goodIn_r _ [10] (by decide +kernel) (by decide +kernel)
set_option maxRecDepth 20000 in
theorem gX9_over_X9_common : GoodIn wsX9_over (va_wsS RX9 78 yX9_common wsX9_common) := goodIn_app (goodIn_of _ (by decide +kernel)) ggX9_over_X9_common
theorem dX9_over_0 : decode cX9_over 0 = .ok (.lload_n 1, 1) := by decide +kernel
theorem dX9_over_1 : decode cX9_over 1 = .ok (.lconst 0, 1) := by decide +kernel
theorem dX9_over_2 : decode cX9_over 2 = .ok (.lcmp, 1) := by decide +kernel
theorem dX9_over_3 : decode cX9_over 3 = .ok (.ifCond .ne 12, 3) := by decide +kernel
theorem dX9_over_6 : decode cX9_over 6 = .ok (.aload_n 0, 1) := by decide +kernel
theorem dX9_over_7 : decode cX9_over 7 = .ok (.lconst 0, 1) := by decide +kernel
theorem dX9_over_8 : decode cX9_over 8 = .ok (.lconst 1, 1) := by decide +kernel
theorem dX9_over_9 : decode cX9_over 9 = .ok (.invokevirtual 82, 3) := by decide +kernel
theorem dX9_over_12 : decode cX9_over 12 = .ok (.goto 30, 3) := by decide +kernel
theorem dX9_over_15 : decode cX9_over 15 = .ok (.aload_n 0, 1) := by decide +kernel
theorem dX9_over_16 : decode cX9_over 16 = .ok (.getfield 75, 3) := by decide +kernel
theorem dX9_over_19 : decode cX9_over 19 = .ok (.lload_n 1, 1) := by decide +kernel
theorem dX9_over_20 : decode cX9_over 20 = .ok (.invokestatic 78, 3) := by decide +kernel
theorem dX9_over_23 : decode cX9_over 23 = .ok (.lstore_n 3, 1) := by decide +kernel
theorem dX9_over_24 : decode cX9_over 24 = .ok (.aload_n 0, 1) := by decide +kernel
theorem dX9_over_25 : decode cX9_over 25 = .ok (.aload_n 0, 1) := by decide +kernel
theorem dX9_over_26 : decode cX9_over 26 = .ok (.getfield 75, 3) := by decide +kernel
theorem dX9_over_29 : decode cX9_over 29 = .ok (.lload_n 3, 1) := by decide +kernel
theorem dX9_over_30 : decode cX9_over 30 = .ok (.ldiv, 1) := by decide +kernel
theorem dX9_over_31 : decode cX9_over 31 = .ok (.aload_n 0, 1) := by decide +kernel
theorem dX9_over_32 : decode cX9_over 32 = .ok (.getfield 27, 3) := by decide +kernel
theorem dX9_over_35 : decode cX9_over 35 = .ok (.lload_n 1, 1) := by decide +kernel
theorem dX9_over_36 : decode cX9_over 36 = .ok (.lload_n 3, 1) := by decide +kernel
theorem dX9_over_37 : decode cX9_over 37 = .ok (.ldiv, 1) := by decide +kernel
theorem dX9_over_38 : decode cX9_over 38 = .ok (.lmul, 1) := by decide +kernel
theorem dX9_over_39 : decode cX9_over 39 = .ok (.invokevirtual 82, 3) := by decide +kernel
theorem dX9_over_42 : decode cX9_over 42 = .ok (.return_, 1) := by decide +kernel
theorem dX9_show_0 : decode cX9_show 0 = .ok (.aload_n 0, 1) := by decide +kernel
theorem dX9_show_1 : decode cX9_show 1 = .ok (.aload_n 0, 1) := by decide +kernel
theorem dX9_show_2 : decode cX9_show 2 = .ok (.getfield 75, 3) := by decide +kernel
theorem dX9_show_5 : decode cX9_show 5 = .ok (.putfield 86, 3) := by decide +kernel
theorem dX9_show_8 : decode cX9_show 8 = .ok (.aload_n 0, 1) := by decide +kernel
theorem dX9_show_9 : decode cX9_show 9 = .ok (.aload_n 0, 1) := by decide +kernel
theorem dX9_show_10 : decode cX9_show 10 = .ok (.getfield 27, 3) := by decide +kernel
theorem dX9_show_13 : decode cX9_show 13 = .ok (.putfield 23, 3) := by decide +kernel
theorem dX9_show_16 : decode cX9_show 16 = .ok (.return_, 1) := by decide +kernel
theorem dX9_top_0 : decode cX9_top 0 = .ok (.aload_n 0, 1) := by decide +kernel
theorem dX9_top_1 : decode cX9_top 1 = .ok (.getfield 86, 3) := by decide +kernel
theorem dX9_top_4 : decode cX9_top 4 = .ok (.lreturn, 1) := by decide +kernel
theorem dX9_bottom_0 : decode cX9_bottom 0 = .ok (.aload_n 0, 1) := by decide +kernel
theorem dX9_bottom_1 : decode cX9_bottom 1 = .ok (.getfield 23, 3) := by decide +kernel
theorem dX9_bottom_4 : decode cX9_bottom 4 = .ok (.lreturn, 1) := by decide +kernel
theorem dX9_worth_0 : decode cX9_worth 0 = .ok (.iconst 1, 1) := by decide +kernel
theorem dX9_worth_1 : decode cX9_worth 1 = .ok (.iload_n 0, 1) := by decide +kernel
theorem dX9_worth_2 : decode cX9_worth 2 = .ok (.ishl, 1) := by decide +kernel
theorem dX9_worth_3 : decode cX9_worth 3 = .ok (.iconst 1, 1) := by decide +kernel
theorem dX9_worth_4 : decode cX9_worth 4 = .ok (.isub, 1) := by decide +kernel
theorem dX9_worth_5 : decode cX9_worth 5 = .ok (.ireturn, 1) := by decide +kernel
set_option maxRecDepth 20000 in
theorem ggX9_first_X9_size : GoodIn wsX9_first wsX9_size := goodIn_r _ [5, 6, 7, 8, 9, 10, 11, 12, 13, 14, 15, 16, 17, 18, 19, 20] (by decide +kernel) (by decide +kernel)
set_option maxRecDepth 20000 in
theorem gX9_first_X9_size : GoodIn wsX9_first (wsV RX9 54 RX9 yX9_size wsX9_size) := goodIn_app (goodIn_of _ (by decide +kernel)) ggX9_first_X9_size
theorem dX9_first_0 : decode cX9_first 0 = .ok (.aload_n 0, 1) := by decide +kernel
theorem dX9_first_1 : decode cX9_first 1 = .ok (.iload_n 1, 1) := by decide +kernel
theorem dX9_first_2 : decode cX9_first 2 = .ok (.iload_n 2, 1) := by decide +kernel
theorem dX9_first_3 : decode cX9_first 3 = .ok (.invokevirtual 54, 3) := by decide +kernel
theorem dX9_first_6 : decode cX9_first 6 = .ok (.iload_n 3, 1) := by decide +kernel
theorem dX9_first_7 : decode cX9_first 7 = .ok (.if_icmp .ge 12, 3) := by decide +kernel
theorem dX9_first_10 : decode cX9_first 10 = .ok (.aload_n 0, 1) := by decide +kernel
theorem dX9_first_11 : decode cX9_first 11 = .ok (.iload_n 1, 1) := by decide +kernel
theorem dX9_first_12 : decode cX9_first 12 = .ok (.iload_n 2, 1) := by decide +kernel
theorem dX9_first_13 : decode cX9_first 13 = .ok (.invokevirtual 54, 3) := by decide +kernel
theorem dX9_first_16 : decode cX9_first 16 = .ok (.goto 4, 3) := by decide +kernel
theorem dX9_first_19 : decode cX9_first 19 = .ok (.iload_n 3, 1) := by decide +kernel
theorem dX9_first_20 : decode cX9_first 20 = .ok (.ireturn, 1) := by decide +kernel
set_option maxRecDepth 20000 in
theorem ggX9_goods_X9_first : GoodIn wsX9_goods wsX9_first := goodIn_r _ [5, 6, 7, 8, 4, 9, 10, 25, 26, 27, 28, 29, 30, 31, 32, 33, 34, 35, 36, 37, 38] (by decide +kernel) (by decide +kernel)
set_option maxRecDepth 20000 in
theorem gX9_goods_X9_first : GoodIn wsX9_goods (wsV RX9 89 RX9 yX9_first wsX9_first) := goodIn_app (goodIn_of _ (by decide +kernel)) ggX9_goods_X9_first
set_option maxRecDepth 20000 in
theorem ggX9_goods_X9_doc : GoodIn wsX9_goods wsX9_doc := goodIn_r _ [14, 15, 25, 26, 27, 28, 29, 30, 31, 32, 33, 34, 35, 36, 37, 38] (by decide +kernel) (by decide +kernel)
set_option maxRecDepth 20000 in
theorem gX9_goods_X9_doc : GoodIn wsX9_goods (wsV RX9 57 RX9 yX9_doc wsX9_doc) := goodIn_app (goodIn_of _ (by decide +kernel)) ggX9_goods_X9_doc
set_option maxRecDepth 20000 in
theorem ggX9_goods_X9_isGood : GoodIn wsX9_goods wsX9_isGood := goodIn_r _ [19, 20, 21, 22, 4, 23, 24, 25, 26, 27, 28, 29, 30, 31, 32, 33, 34, 35, 36, 37, 38] (by decide +kernel) (by decide +kernel)
set_option maxRecDepth 20000 in
theorem gX9_goods_X9_isGood : GoodIn wsX9_goods (wsV RX9 92 RX9 yX9_isGood wsX9_isGood) := goodIn_app (goodIn_of _ (by decide +kernel)) ggX9_goods_X9_isGood
theorem dX9_goods_0 : decode cX9_goods 0 = .ok (.iconst 0, 1) := by decide +kernel
theorem dX9_goods_1 : decode cX9_goods 1 = .ok (.istore 4, 2) := by decide +kernel
theorem dX9_goods_3 : decode cX9_goods 3 = .ok (.iconst 0, 1) := by decide +kernel
theorem dX9_goods_4 : decode cX9_goods 4 = .ok (.istore 5, 2) := by decide +kernel
theorem dX9_goods_6 : decode cX9_goods 6 = .ok (.iload 5, 2) := by decide +kernel
theorem dX9_goods_8 : decode cX9_goods 8 = .ok (.aload_n 0, 1) := by decide +kernel
theorem dX9_goods_9 : decode cX9_goods 9 = .ok (.iload_n 1, 1) := by decide +kernel
theorem dX9_goods_10 : decode cX9_goods 10 = .ok (.iload_n 2, 1) := by decide +kernel
theorem dX9_goods_11 : decode cX9_goods 11 = .ok (.iload_n 3, 1) := by decide +kernel
theorem dX9_goods_12 : decode cX9_goods 12 = .ok (.invokevirtual 89, 3) := by decide +kernel
theorem dX9_goods_15 : decode cX9_goods 15 = .ok (.if_icmp .ge 35, 3) := by decide +kernel
theorem dX9_goods_18 : decode cX9_goods 18 = .ok (.iload 4, 2) := by decide +kernel
theorem dX9_goods_20 : decode cX9_goods 20 = .ok (.aload_n 0, 1) := by decide +kernel
theorem dX9_goods_21 : decode cX9_goods 21 = .ok (.iload_n 2, 1) := by decide +kernel
theorem dX9_goods_22 : decode cX9_goods 22 = .ok (.aload_n 0, 1) := by decide +kernel
theorem dX9_goods_23 : decode cX9_goods 23 = .ok (.iload_n 1, 1) := by decide +kernel
theorem dX9_goods_24 : decode cX9_goods 24 = .ok (.iload_n 2, 1) := by decide +kernel
theorem dX9_goods_25 : decode cX9_goods 25 = .ok (.iload 5, 2) := by decide +kernel
theorem dX9_goods_27 : decode cX9_goods 27 = .ok (.invokevirtual 57, 3) := by decide +kernel
theorem dX9_goods_30 : decode cX9_goods 30 = .ok (.invokevirtual 92, 3) := by decide +kernel
theorem dX9_goods_33 : decode cX9_goods 33 = .ok (.ifCond .eq 7, 3) := by decide +kernel
theorem dX9_goods_36 : decode cX9_goods 36 = .ok (.iconst 1, 1) := by decide +kernel
theorem dX9_goods_37 : decode cX9_goods 37 = .ok (.goto 4, 3) := by decide +kernel
theorem dX9_goods_40 : decode cX9_goods 40 = .ok (.iconst 0, 1) := by decide +kernel
theorem dX9_goods_41 : decode cX9_goods 41 = .ok (.iadd, 1) := by decide +kernel
theorem dX9_goods_42 : decode cX9_goods 42 = .ok (.istore 4, 2) := by decide +kernel
theorem dX9_goods_44 : decode cX9_goods 44 = .ok (.iinc 5 1, 3) := by decide +kernel
theorem dX9_goods_47 : decode cX9_goods 47 = .ok (.goto (-41), 3) := by decide +kernel
theorem dX9_goods_50 : decode cX9_goods 50 = .ok (.iload 4, 2) := by decide +kernel
theorem dX9_goods_52 : decode cX9_goods 52 = .ok (.ireturn, 1) := by decide +kernel
set_option maxRecDepth 20000 in
theorem ggX9_unjudged_X9_first : GoodIn wsX9_unjudged wsX9_first := goodIn_r _ [5, 6, 7, 8, 4, 9, 10, 21, 22, 23, 24, 25, 26, 27, 28, 29, 30, 31, 32, 33, 34] (by decide +kernel) (by decide +kernel)
set_option maxRecDepth 20000 in
theorem gX9_unjudged_X9_first : GoodIn wsX9_unjudged (wsV RX9 89 RX9 yX9_first wsX9_first) := goodIn_app (goodIn_of _ (by decide +kernel)) ggX9_unjudged_X9_first
set_option maxRecDepth 20000 in
theorem ggX9_unjudged_X9_doc : GoodIn wsX9_unjudged wsX9_doc := goodIn_r _ [14, 15, 21, 22, 23, 24, 25, 26, 27, 28, 29, 30, 31, 32, 33, 34] (by decide +kernel) (by decide +kernel)
set_option maxRecDepth 20000 in
theorem gX9_unjudged_X9_doc : GoodIn wsX9_unjudged (wsV RX9 57 RX9 yX9_doc wsX9_doc) := goodIn_app (goodIn_of _ (by decide +kernel)) ggX9_unjudged_X9_doc
set_option maxRecDepth 20000 in
theorem ggX9_unjudged_X9_gradeOf : GoodIn wsX9_unjudged wsX9_gradeOf := goodIn_r _ [19, 20, 21, 22, 23, 24, 25, 26, 27, 28, 29, 30, 31, 32, 33, 34] (by decide +kernel) (by decide +kernel)
set_option maxRecDepth 20000 in
theorem gX9_unjudged_X9_gradeOf : GoodIn wsX9_unjudged (wsV RX9 50 RX9 yX9_gradeOf wsX9_gradeOf) := goodIn_app (goodIn_of _ (by decide +kernel)) ggX9_unjudged_X9_gradeOf
theorem dX9_unjudged_0 : decode cX9_unjudged 0 = .ok (.iconst 0, 1) := by decide +kernel
theorem dX9_unjudged_1 : decode cX9_unjudged 1 = .ok (.istore 4, 2) := by decide +kernel
theorem dX9_unjudged_3 : decode cX9_unjudged 3 = .ok (.iconst 0, 1) := by decide +kernel
theorem dX9_unjudged_4 : decode cX9_unjudged 4 = .ok (.istore 5, 2) := by decide +kernel
theorem dX9_unjudged_6 : decode cX9_unjudged 6 = .ok (.iload 5, 2) := by decide +kernel
theorem dX9_unjudged_8 : decode cX9_unjudged 8 = .ok (.aload_n 0, 1) := by decide +kernel
theorem dX9_unjudged_9 : decode cX9_unjudged 9 = .ok (.iload_n 1, 1) := by decide +kernel
theorem dX9_unjudged_10 : decode cX9_unjudged 10 = .ok (.iload_n 2, 1) := by decide +kernel
theorem dX9_unjudged_11 : decode cX9_unjudged 11 = .ok (.iload_n 3, 1) := by decide +kernel
theorem dX9_unjudged_12 : decode cX9_unjudged 12 = .ok (.invokevirtual 89, 3) := by decide +kernel
theorem dX9_unjudged_15 : decode cX9_unjudged 15 = .ok (.if_icmp .ge 35, 3) := by decide +kernel
theorem dX9_unjudged_18 : decode cX9_unjudged 18 = .ok (.iload 4, 2) := by decide +kernel
theorem dX9_unjudged_20 : decode cX9_unjudged 20 = .ok (.aload_n 0, 1) := by decide +kernel
theorem dX9_unjudged_21 : decode cX9_unjudged 21 = .ok (.iload_n 2, 1) := by decide +kernel
theorem dX9_unjudged_22 : decode cX9_unjudged 22 = .ok (.aload_n 0, 1) := by decide +kernel
theorem dX9_unjudged_23 : decode cX9_unjudged 23 = .ok (.iload_n 1, 1) := by decide +kernel
theorem dX9_unjudged_24 : decode cX9_unjudged 24 = .ok (.iload_n 2, 1) := by decide +kernel
theorem dX9_unjudged_25 : decode cX9_unjudged 25 = .ok (.iload 5, 2) := by decide +kernel
theorem dX9_unjudged_27 : decode cX9_unjudged 27 = .ok (.invokevirtual 57, 3) := by decide +kernel
theorem dX9_unjudged_30 : decode cX9_unjudged 30 = .ok (.invokevirtual 50, 3) := by decide +kernel
theorem dX9_unjudged_33 : decode cX9_unjudged 33 = .ok (.ifCond .ge 7, 3) := by decide +kernel
theorem dX9_unjudged_36 : decode cX9_unjudged 36 = .ok (.iconst 1, 1) := by decide +kernel
theorem dX9_unjudged_37 : decode cX9_unjudged 37 = .ok (.goto 4, 3) := by decide +kernel
theorem dX9_unjudged_40 : decode cX9_unjudged 40 = .ok (.iconst 0, 1) := by decide +kernel
theorem dX9_unjudged_41 : decode cX9_unjudged 41 = .ok (.iadd, 1) := by decide +kernel
theorem dX9_unjudged_42 : decode cX9_unjudged 42 = .ok (.istore 4, 2) := by decide +kernel
theorem dX9_unjudged_44 : decode cX9_unjudged 44 = .ok (.iinc 5 1, 3) := by decide +kernel
theorem dX9_unjudged_47 : decode cX9_unjudged 47 = .ok (.goto (-41), 3) := by decide +kernel
theorem dX9_unjudged_50 : decode cX9_unjudged 50 = .ok (.iload 4, 2) := by decide +kernel
theorem dX9_unjudged_52 : decode cX9_unjudged 52 = .ok (.ireturn, 1) := by decide +kernel
set_option maxRecDepth 20000 in
theorem ggX9_average_X9_make : GoodIn wsX9_average wsX9_make := goodIn_r _ [5, 6, 7, 8, 9, 4, 10, 50, 51, 52, 53, 54, 55, 56, 57, 58, 59, 60, 61, 62, 63] (by decide +kernel) (by decide +kernel)
set_option maxRecDepth 20000 in
theorem gX9_average_X9_make : GoodIn wsX9_average (wsV RX9 82 RX9 yX9_make wsX9_make) := goodIn_app (goodIn_of _ (by decide +kernel)) ggX9_average_X9_make
set_option maxRecDepth 20000 in
theorem ggX9_average_X9_first : GoodIn wsX9_average wsX9_first := goodIn_r _ [14, 15, 16, 17, 4, 18, 19, 50, 51, 52, 53, 54, 55, 56, 57, 58, 59, 60, 61, 62, 63] (by decide +kernel) (by decide +kernel)
set_option maxRecDepth 20000 in
theorem gX9_average_X9_first : GoodIn wsX9_average (wsV RX9 89 RX9 yX9_first wsX9_first) := goodIn_app (goodIn_of _ (by decide +kernel)) ggX9_average_X9_first
set_option maxRecDepth 20000 in
theorem ggX9_average_X9_doc : GoodIn wsX9_average wsX9_doc := goodIn_r _ [23, 24, 50, 51, 52, 53, 54, 55, 56, 57, 58, 59, 60, 61, 62, 63] (by decide +kernel) (by decide +kernel)
set_option maxRecDepth 20000 in
theorem gX9_average_X9_doc : GoodIn wsX9_average (wsV RX9 57 RX9 yX9_doc wsX9_doc) := goodIn_app (goodIn_of _ (by decide +kernel)) ggX9_average_X9_doc
set_option maxRecDepth 20000 in
theorem ggX9_average_X9_isGood : GoodIn wsX9_average wsX9_isGood := goodIn_r _ [28, 29, 30, 31, 4, 32, 33, 50, 51, 52, 53, 54, 55, 56, 57, 58, 59, 60, 61, 62, 63] (by decide +kernel) (by decide +kernel)
set_option maxRecDepth 20000 in
theorem gX9_average_X9_isGood : GoodIn wsX9_average (wsV RX9 92 RX9 yX9_isGood wsX9_isGood) := goodIn_app (goodIn_of _ (by decide +kernel)) ggX9_average_X9_isGood
set_option maxRecDepth 20000 in
theorem ggX9_average_X9_plus : GoodIn wsX9_average wsX9_plus := goodIn_r _ [37, 7, 6, 8, 9, 4, 10, 1, 2, 3, 5, 50, 51, 52, 53, 54, 55, 56, 57, 58, 59, 60, 61, 62, 63] (by decide +kernel) (by decide +kernel)
set_option maxRecDepth 20000 in
theorem gX9_average_X9_plus : GoodIn wsX9_average (wsV RX9 95 RX9 yX9_plus wsX9_plus) := goodIn_app (goodIn_of _ (by decide +kernel)) ggX9_average_X9_plus
set_option maxRecDepth 20000 in
theorem ggX9_average_X9_rs : GoodIn wsX9_average wsX9_rs := goodIn_r _ [41, 42, 43, 44, 4, 45, 29, 30, 31, 32, 33, 50, 51, 52, 53, 54, 55, 56, 57, 58, 59, 60, 61, 62, 63] (by decide +kernel) (by decide +kernel)
set_option maxRecDepth 20000 in
theorem gX9_average_X9_rs : GoodIn wsX9_average (wsV RX9 71 RX9 yX9_rs wsX9_rs) := goodIn_app (goodIn_of _ (by decide +kernel)) ggX9_average_X9_rs
set_option maxRecDepth 20000 in
theorem ggX9_average_X9_over : GoodIn wsX9_average wsX9_over := goodIn_r _ [49, 6, 7, 1, 2, 3, 4, 5, 8, 9, 10, 50, 51, 52, 53, 54, 55, 56, 57, 58, 59, 60, 61, 62, 63] (by decide +kernel) (by decide +kernel)
set_option maxRecDepth 20000 in
theorem gX9_average_X9_over : GoodIn wsX9_average (wsV RX9 98 RX9 yX9_over wsX9_over) := goodIn_app (goodIn_of _ (by decide +kernel)) ggX9_average_X9_over
theorem dX9_average_0 : decode cX9_average 0 = .ok (.aload_n 0, 1) := by decide +kernel
theorem dX9_average_1 : decode cX9_average 1 = .ok (.lconst 0, 1) := by decide +kernel
theorem dX9_average_2 : decode cX9_average 2 = .ok (.lconst 1, 1) := by decide +kernel
theorem dX9_average_3 : decode cX9_average 3 = .ok (.invokevirtual 82, 3) := by decide +kernel
theorem dX9_average_6 : decode cX9_average 6 = .ok (.iconst 0, 1) := by decide +kernel
theorem dX9_average_7 : decode cX9_average 7 = .ok (.istore 4, 2) := by decide +kernel
theorem dX9_average_9 : decode cX9_average 9 = .ok (.iconst 0, 1) := by decide +kernel
theorem dX9_average_10 : decode cX9_average 10 = .ok (.istore 5, 2) := by decide +kernel
theorem dX9_average_12 : decode cX9_average 12 = .ok (.iload 5, 2) := by decide +kernel
theorem dX9_average_14 : decode cX9_average 14 = .ok (.aload_n 0, 1) := by decide +kernel
theorem dX9_average_15 : decode cX9_average 15 = .ok (.iload_n 1, 1) := by decide +kernel
theorem dX9_average_16 : decode cX9_average 16 = .ok (.iload_n 2, 1) := by decide +kernel
theorem dX9_average_17 : decode cX9_average 17 = .ok (.iload_n 3, 1) := by decide +kernel
theorem dX9_average_18 : decode cX9_average 18 = .ok (.invokevirtual 89, 3) := by decide +kernel
theorem dX9_average_21 : decode cX9_average 21 = .ok (.if_icmp .ge 40, 3) := by decide +kernel
theorem dX9_average_24 : decode cX9_average 24 = .ok (.aload_n 0, 1) := by decide +kernel
theorem dX9_average_25 : decode cX9_average 25 = .ok (.iload_n 2, 1) := by decide +kernel
theorem dX9_average_26 : decode cX9_average 26 = .ok (.aload_n 0, 1) := by decide +kernel
theorem dX9_average_27 : decode cX9_average 27 = .ok (.iload_n 1, 1) := by decide +kernel
theorem dX9_average_28 : decode cX9_average 28 = .ok (.iload_n 2, 1) := by decide +kernel
theorem dX9_average_29 : decode cX9_average 29 = .ok (.iload 5, 2) := by decide +kernel
theorem dX9_average_31 : decode cX9_average 31 = .ok (.invokevirtual 57, 3) := by decide +kernel
theorem dX9_average_34 : decode cX9_average 34 = .ok (.invokevirtual 92, 3) := by decide +kernel
theorem dX9_average_37 : decode cX9_average 37 = .ok (.ifCond .eq 18, 3) := by decide +kernel
theorem dX9_average_40 : decode cX9_average 40 = .ok (.iinc 4 1, 3) := by decide +kernel
theorem dX9_average_43 : decode cX9_average 43 = .ok (.aload_n 0, 1) := by decide +kernel
theorem dX9_average_44 : decode cX9_average 44 = .ok (.iload 4, 2) := by decide +kernel
theorem dX9_average_46 : decode cX9_average 46 = .ok (.i2l, 1) := by decide +kernel
theorem dX9_average_47 : decode cX9_average 47 = .ok (.iload 5, 2) := by decide +kernel
theorem dX9_average_49 : decode cX9_average 49 = .ok (.i2l, 1) := by decide +kernel
theorem dX9_average_50 : decode cX9_average 50 = .ok (.lconst 1, 1) := by decide +kernel
theorem dX9_average_51 : decode cX9_average 51 = .ok (.ladd, 1) := by decide +kernel
theorem dX9_average_52 : decode cX9_average 52 = .ok (.invokevirtual 95, 3) := by decide +kernel
theorem dX9_average_55 : decode cX9_average 55 = .ok (.iinc 5 1, 3) := by decide +kernel
theorem dX9_average_58 : decode cX9_average 58 = .ok (.goto (-46), 3) := by decide +kernel
theorem dX9_average_61 : decode cX9_average 61 = .ok (.aload_n 0, 1) := by decide +kernel
theorem dX9_average_62 : decode cX9_average 62 = .ok (.aload_n 0, 1) := by decide +kernel
theorem dX9_average_63 : decode cX9_average 63 = .ok (.iload_n 2, 1) := by decide +kernel
theorem dX9_average_64 : decode cX9_average 64 = .ok (.invokevirtual 71, 3) := by decide +kernel
theorem dX9_average_67 : decode cX9_average 67 = .ok (.i2l, 1) := by decide +kernel
theorem dX9_average_68 : decode cX9_average 68 = .ok (.invokevirtual 98, 3) := by decide +kernel
theorem dX9_average_71 : decode cX9_average 71 = .ok (.return_, 1) := by decide +kernel
set_option maxRecDepth 20000 in
theorem ggX9_firstGood_X9_make : GoodIn wsX9_firstGood wsX9_make := goodIn_r _ [5, 6, 7, 8, 9, 4, 10, 34, 35, 36, 37, 38, 39, 40, 41, 42, 43, 44, 45, 46, 47] (by decide +kernel) (by decide +kernel)
set_option maxRecDepth 20000 in
theorem gX9_firstGood_X9_make : GoodIn wsX9_firstGood (wsV RX9 82 RX9 yX9_make wsX9_make) := goodIn_app (goodIn_of _ (by decide +kernel)) ggX9_firstGood_X9_make
set_option maxRecDepth 20000 in
theorem ggX9_firstGood_X9_first : GoodIn wsX9_firstGood wsX9_first := goodIn_r _ [14, 15, 16, 17, 4, 18, 19, 34, 35, 36, 37, 38, 39, 40, 41, 42, 43, 44, 45, 46, 47] (by decide +kernel) (by decide +kernel)
set_option maxRecDepth 20000 in
theorem gX9_firstGood_X9_first : GoodIn wsX9_firstGood (wsV RX9 89 RX9 yX9_first wsX9_first) := goodIn_app (goodIn_of _ (by decide +kernel)) ggX9_firstGood_X9_first
set_option maxRecDepth 20000 in
theorem ggX9_firstGood_X9_doc : GoodIn wsX9_firstGood wsX9_doc := goodIn_r _ [23, 24, 34, 35, 36, 37, 38, 39, 40, 41, 42, 43, 44, 45, 46, 47] (by decide +kernel) (by decide +kernel)
set_option maxRecDepth 20000 in
theorem gX9_firstGood_X9_doc : GoodIn wsX9_firstGood (wsV RX9 57 RX9 yX9_doc wsX9_doc) := goodIn_app (goodIn_of _ (by decide +kernel)) ggX9_firstGood_X9_doc
set_option maxRecDepth 20000 in
theorem ggX9_firstGood_X9_isGood : GoodIn wsX9_firstGood wsX9_isGood := goodIn_r _ [28, 29, 30, 31, 4, 32, 33, 34, 35, 36, 37, 38, 39, 40, 41, 42, 43, 44, 45, 46, 47] (by decide +kernel) (by decide +kernel)
set_option maxRecDepth 20000 in
theorem gX9_firstGood_X9_isGood : GoodIn wsX9_firstGood (wsV RX9 92 RX9 yX9_isGood wsX9_isGood) := goodIn_app (goodIn_of _ (by decide +kernel)) ggX9_firstGood_X9_isGood
theorem dX9_firstGood_0 : decode cX9_firstGood 0 = .ok (.aload_n 0, 1) := by decide +kernel
theorem dX9_firstGood_1 : decode cX9_firstGood 1 = .ok (.lconst 0, 1) := by decide +kernel
theorem dX9_firstGood_2 : decode cX9_firstGood 2 = .ok (.lconst 1, 1) := by decide +kernel
theorem dX9_firstGood_3 : decode cX9_firstGood 3 = .ok (.invokevirtual 82, 3) := by decide +kernel
theorem dX9_firstGood_6 : decode cX9_firstGood 6 = .ok (.aload_n 0, 1) := by decide +kernel
theorem dX9_firstGood_7 : decode cX9_firstGood 7 = .ok (.iload_n 1, 1) := by decide +kernel
theorem dX9_firstGood_8 : decode cX9_firstGood 8 = .ok (.iload_n 2, 1) := by decide +kernel
theorem dX9_firstGood_9 : decode cX9_firstGood 9 = .ok (.iload_n 3, 1) := by decide +kernel
theorem dX9_firstGood_10 : decode cX9_firstGood 10 = .ok (.invokevirtual 89, 3) := by decide +kernel
theorem dX9_firstGood_13 : decode cX9_firstGood 13 = .ok (.iconst 1, 1) := by decide +kernel
theorem dX9_firstGood_14 : decode cX9_firstGood 14 = .ok (.isub, 1) := by decide +kernel
theorem dX9_firstGood_15 : decode cX9_firstGood 15 = .ok (.istore 4, 2) := by decide +kernel
theorem dX9_firstGood_17 : decode cX9_firstGood 17 = .ok (.iload 4, 2) := by decide +kernel
theorem dX9_firstGood_19 : decode cX9_firstGood 19 = .ok (.ifCond .lt 35, 3) := by decide +kernel
theorem dX9_firstGood_22 : decode cX9_firstGood 22 = .ok (.aload_n 0, 1) := by decide +kernel
theorem dX9_firstGood_23 : decode cX9_firstGood 23 = .ok (.iload_n 2, 1) := by decide +kernel
theorem dX9_firstGood_24 : decode cX9_firstGood 24 = .ok (.aload_n 0, 1) := by decide +kernel
theorem dX9_firstGood_25 : decode cX9_firstGood 25 = .ok (.iload_n 1, 1) := by decide +kernel
theorem dX9_firstGood_26 : decode cX9_firstGood 26 = .ok (.iload_n 2, 1) := by decide +kernel
theorem dX9_firstGood_27 : decode cX9_firstGood 27 = .ok (.iload 4, 2) := by decide +kernel
theorem dX9_firstGood_29 : decode cX9_firstGood 29 = .ok (.invokevirtual 57, 3) := by decide +kernel
theorem dX9_firstGood_32 : decode cX9_firstGood 32 = .ok (.invokevirtual 92, 3) := by decide +kernel
theorem dX9_firstGood_35 : decode cX9_firstGood 35 = .ok (.ifCond .eq 13, 3) := by decide +kernel
theorem dX9_firstGood_38 : decode cX9_firstGood 38 = .ok (.aload_n 0, 1) := by decide +kernel
theorem dX9_firstGood_39 : decode cX9_firstGood 39 = .ok (.lconst 1, 1) := by decide +kernel
theorem dX9_firstGood_40 : decode cX9_firstGood 40 = .ok (.iload 4, 2) := by decide +kernel
theorem dX9_firstGood_42 : decode cX9_firstGood 42 = .ok (.i2l, 1) := by decide +kernel
theorem dX9_firstGood_43 : decode cX9_firstGood 43 = .ok (.lconst 1, 1) := by decide +kernel
theorem dX9_firstGood_44 : decode cX9_firstGood 44 = .ok (.ladd, 1) := by decide +kernel
theorem dX9_firstGood_45 : decode cX9_firstGood 45 = .ok (.invokevirtual 82, 3) := by decide +kernel
theorem dX9_firstGood_48 : decode cX9_firstGood 48 = .ok (.iinc 4 (-1), 3) := by decide +kernel
theorem dX9_firstGood_51 : decode cX9_firstGood 51 = .ok (.goto (-34), 3) := by decide +kernel
theorem dX9_firstGood_54 : decode cX9_firstGood 54 = .ok (.return_, 1) := by decide +kernel
set_option maxRecDepth 20000 in
theorem ggX9_gained_X9_make : GoodIn wsX9_gained wsX9_make := goodIn_r _ [5, 6, 7, 8, 9, 4, 10, 41, 42, 43, 44, 45, 46, 47, 48, 49, 50, 51, 52, 53, 54] (by decide +kernel) (by decide +kernel)
set_option maxRecDepth 20000 in
theorem gX9_gained_X9_make : GoodIn wsX9_gained (wsV RX9 82 RX9 yX9_make wsX9_make) := goodIn_app (goodIn_of _ (by decide +kernel)) ggX9_gained_X9_make
set_option maxRecDepth 20000 in
theorem ggX9_gained_X9_first : GoodIn wsX9_gained wsX9_first := goodIn_r _ [14, 15, 16, 17, 4, 18, 19, 41, 42, 43, 44, 45, 46, 47, 48, 49, 50, 51, 52, 53, 54] (by decide +kernel) (by decide +kernel)
set_option maxRecDepth 20000 in
theorem gX9_gained_X9_first : GoodIn wsX9_gained (wsV RX9 89 RX9 yX9_first wsX9_first) := goodIn_app (goodIn_of _ (by decide +kernel)) ggX9_gained_X9_first
set_option maxRecDepth 20000 in
theorem ggX9_gained_X9_doc : GoodIn wsX9_gained wsX9_doc := goodIn_r _ [23, 24, 41, 42, 43, 44, 45, 46, 47, 48, 49, 50, 51, 52, 53, 54] (by decide +kernel) (by decide +kernel)
set_option maxRecDepth 20000 in
theorem gX9_gained_X9_doc : GoodIn wsX9_gained (wsV RX9 57 RX9 yX9_doc wsX9_doc) := goodIn_app (goodIn_of _ (by decide +kernel)) ggX9_gained_X9_doc
set_option maxRecDepth 20000 in
theorem ggX9_gained_X9_isGood : GoodIn wsX9_gained wsX9_isGood := goodIn_r _ [28, 29, 30, 31, 4, 32, 33, 41, 42, 43, 44, 45, 46, 47, 48, 49, 50, 51, 52, 53, 54] (by decide +kernel) (by decide +kernel)
set_option maxRecDepth 20000 in
theorem gX9_gained_X9_isGood : GoodIn wsX9_gained (wsV RX9 92 RX9 yX9_isGood wsX9_isGood) := goodIn_app (goodIn_of _ (by decide +kernel)) ggX9_gained_X9_isGood
set_option maxRecDepth 20000 in
theorem ggX9_gained_X9_gradeOf : GoodIn wsX9_gained wsX9_gradeOf := goodIn_r _ [32, 33, 41, 42, 43, 44, 45, 46, 47, 48, 49, 50, 51, 52, 53, 54] (by decide +kernel) (by decide +kernel)
set_option maxRecDepth 20000 in
theorem gX9_gained_X9_gradeOf : GoodIn wsX9_gained (wsV RX9 50 RX9 yX9_gradeOf wsX9_gradeOf) := goodIn_app (goodIn_of _ (by decide +kernel)) ggX9_gained_X9_gradeOf
set_option maxRecDepth 20000 in
theorem ggX9_gained_X9_worth : GoodIn wsX9_gained wsX9_worth := goodIn_r _ [36] (by decide +kernel) (by decide +kernel)
set_option maxRecDepth 20000 in
theorem gX9_gained_X9_worth : GoodIn wsX9_gained (va_wsS RX9 102 yX9_worth wsX9_worth) := goodIn_app (goodIn_of _ (by decide +kernel)) ggX9_gained_X9_worth
set_option maxRecDepth 20000 in
theorem ggX9_gained_X9_plus : GoodIn wsX9_gained wsX9_plus := goodIn_r _ [40, 7, 6, 8, 9, 4, 10, 1, 2, 3, 5, 41, 42, 43, 44, 45, 46, 47, 48, 49, 50, 51, 52, 53, 54] (by decide +kernel) (by decide +kernel)
set_option maxRecDepth 20000 in
theorem gX9_gained_X9_plus : GoodIn wsX9_gained (wsV RX9 95 RX9 yX9_plus wsX9_plus) := goodIn_app (goodIn_of _ (by decide +kernel)) ggX9_gained_X9_plus
theorem dX9_gained_0 : decode cX9_gained 0 = .ok (.aload_n 0, 1) := by decide +kernel
theorem dX9_gained_1 : decode cX9_gained 1 = .ok (.lconst 0, 1) := by decide +kernel
theorem dX9_gained_2 : decode cX9_gained 2 = .ok (.lconst 1, 1) := by decide +kernel
theorem dX9_gained_3 : decode cX9_gained 3 = .ok (.invokevirtual 82, 3) := by decide +kernel
theorem dX9_gained_6 : decode cX9_gained 6 = .ok (.iconst 0, 1) := by decide +kernel
theorem dX9_gained_7 : decode cX9_gained 7 = .ok (.istore 4, 2) := by decide +kernel
theorem dX9_gained_9 : decode cX9_gained 9 = .ok (.iload 4, 2) := by decide +kernel
theorem dX9_gained_11 : decode cX9_gained 11 = .ok (.aload_n 0, 1) := by decide +kernel
theorem dX9_gained_12 : decode cX9_gained 12 = .ok (.iload_n 1, 1) := by decide +kernel
theorem dX9_gained_13 : decode cX9_gained 13 = .ok (.iload_n 2, 1) := by decide +kernel
theorem dX9_gained_14 : decode cX9_gained 14 = .ok (.iload_n 3, 1) := by decide +kernel
theorem dX9_gained_15 : decode cX9_gained 15 = .ok (.invokevirtual 89, 3) := by decide +kernel
theorem dX9_gained_18 : decode cX9_gained 18 = .ok (.if_icmp .ge 49, 3) := by decide +kernel
theorem dX9_gained_21 : decode cX9_gained 21 = .ok (.aload_n 0, 1) := by decide +kernel
theorem dX9_gained_22 : decode cX9_gained 22 = .ok (.iload_n 1, 1) := by decide +kernel
theorem dX9_gained_23 : decode cX9_gained 23 = .ok (.iload_n 2, 1) := by decide +kernel
theorem dX9_gained_24 : decode cX9_gained 24 = .ok (.iload 4, 2) := by decide +kernel
theorem dX9_gained_26 : decode cX9_gained 26 = .ok (.invokevirtual 57, 3) := by decide +kernel
theorem dX9_gained_29 : decode cX9_gained 29 = .ok (.istore 5, 2) := by decide +kernel
theorem dX9_gained_31 : decode cX9_gained 31 = .ok (.aload_n 0, 1) := by decide +kernel
theorem dX9_gained_32 : decode cX9_gained 32 = .ok (.iload_n 2, 1) := by decide +kernel
theorem dX9_gained_33 : decode cX9_gained 33 = .ok (.iload 5, 2) := by decide +kernel
theorem dX9_gained_35 : decode cX9_gained 35 = .ok (.invokevirtual 92, 3) := by decide +kernel
theorem dX9_gained_38 : decode cX9_gained 38 = .ok (.ifCond .eq 23, 3) := by decide +kernel
theorem dX9_gained_41 : decode cX9_gained 41 = .ok (.aload_n 0, 1) := by decide +kernel
theorem dX9_gained_42 : decode cX9_gained 42 = .ok (.aload_n 0, 1) := by decide +kernel
theorem dX9_gained_43 : decode cX9_gained 43 = .ok (.iload_n 2, 1) := by decide +kernel
theorem dX9_gained_44 : decode cX9_gained 44 = .ok (.iload 5, 2) := by decide +kernel
theorem dX9_gained_46 : decode cX9_gained 46 = .ok (.invokevirtual 50, 3) := by decide +kernel
theorem dX9_gained_49 : decode cX9_gained 49 = .ok (.invokestatic 102, 3) := by decide +kernel
theorem dX9_gained_52 : decode cX9_gained 52 = .ok (.i2l, 1) := by decide +kernel
theorem dX9_gained_53 : decode cX9_gained 53 = .ok (.iload 4, 2) := by decide +kernel
theorem dX9_gained_55 : decode cX9_gained 55 = .ok (.i2l, 1) := by decide +kernel
theorem dX9_gained_56 : decode cX9_gained 56 = .ok (.lconst 1, 1) := by decide +kernel
theorem dX9_gained_57 : decode cX9_gained 57 = .ok (.ladd, 1) := by decide +kernel
theorem dX9_gained_58 : decode cX9_gained 58 = .ok (.invokevirtual 95, 3) := by decide +kernel
theorem dX9_gained_61 : decode cX9_gained 61 = .ok (.iinc 4 1, 3) := by decide +kernel
theorem dX9_gained_64 : decode cX9_gained 64 = .ok (.goto (-55), 3) := by decide +kernel
theorem dX9_gained_67 : decode cX9_gained 67 = .ok (.return_, 1) := by decide +kernel
set_option maxRecDepth 20000 in
theorem ggX9_share_X9_make : GoodIn wsX9_share wsX9_make := goodIn_r _ [7, 1, 2, 8, 9, 6, 10, 49, 50, 51, 52, 53, 54, 55, 56, 57, 58, 59, 60, 61, 62] (by decide +kernel) (by decide +kernel)
set_option maxRecDepth 20000 in
theorem gX9_share_X9_make : GoodIn wsX9_share (wsV RX9 82 RX9 yX9_make wsX9_make) := goodIn_app (goodIn_of _ (by decide +kernel)) ggX9_share_X9_make
set_option maxRecDepth 20000 in
theorem ggX9_share_X9_graded : GoodIn wsX9_share wsX9_graded := goodIn_r _ [14, 15, 16, 17, 6, 18, 19, 49, 50, 51, 52, 53, 54, 55, 56, 57, 58, 59, 60, 61, 62] (by decide +kernel) (by decide +kernel)
set_option maxRecDepth 20000 in
theorem gX9_share_X9_graded : GoodIn wsX9_share (wsV RX9 68 RX9 yX9_graded wsX9_graded) := goodIn_app (goodIn_of _ (by decide +kernel)) ggX9_share_X9_graded
set_option maxRecDepth 20000 in
theorem ggX9_share_X9_worth : GoodIn wsX9_share wsX9_worth := goodIn_r _ [22] (by decide +kernel) (by decide +kernel)
set_option maxRecDepth 20000 in
theorem gX9_share_X9_worth : GoodIn wsX9_share (va_wsS RX9 102 yX9_worth wsX9_worth) := goodIn_app (goodIn_of _ (by decide +kernel)) ggX9_share_X9_worth
set_option maxRecDepth 20000 in
theorem ggX9_share_X9_plus : GoodIn wsX9_share wsX9_plus := goodIn_r _ [26, 2, 1, 8, 9, 6, 10, 3, 4, 5, 7, 49, 50, 51, 52, 53, 54, 55, 56, 57, 58, 59, 60, 61, 62] (by decide +kernel) (by decide +kernel)
set_option maxRecDepth 20000 in
theorem gX9_share_X9_plus : GoodIn wsX9_share (wsV RX9 95 RX9 yX9_plus wsX9_plus) := goodIn_app (goodIn_of _ (by decide +kernel)) ggX9_share_X9_plus
set_option maxRecDepth 20000 in
theorem ggX9_share_X9_gained : GoodIn wsX9_share wsX9_gained := goodIn_r _ [30, 3, 4, 5, 6, 7, 1, 2, 8, 9, 10, 31, 32, 33, 34, 35, 36, 37, 38, 39, 40, 41, 42, 43, 44, 45, 46, 47, 48, 15, 16, 17, 18, 19, 20, 21, 22, 23, 24, 25, 26, 49, 50, 51, 52, 53, 54, 55, 56, 57, 58, 59, 60, 61, 62] (by decide +kernel) (by decide +kernel)
set_option maxRecDepth 20000 in
theorem gX9_share_X9_gained : GoodIn wsX9_share (wsV RX9 105 RX9 yX9_gained wsX9_gained) := goodIn_app (goodIn_of _ (by decide +kernel)) ggX9_share_X9_gained
set_option maxRecDepth 20000 in
theorem ggX9_share_X9_common : GoodIn wsX9_share wsX9_common := goodIn_r _ [10] (by decide +kernel) (by decide +kernel)
set_option maxRecDepth 20000 in
theorem gX9_share_X9_common : GoodIn wsX9_share (va_wsS RX9 78 yX9_common wsX9_common) := goodIn_app (goodIn_of _ (by decide +kernel)) ggX9_share_X9_common
theorem dX9_share_0 : decode cX9_share 0 = .ok (.aload_n 0, 1) := by decide +kernel
theorem dX9_share_1 : decode cX9_share 1 = .ok (.lconst 0, 1) := by decide +kernel
theorem dX9_share_2 : decode cX9_share 2 = .ok (.lconst 1, 1) := by decide +kernel
theorem dX9_share_3 : decode cX9_share 3 = .ok (.invokevirtual 82, 3) := by decide +kernel
theorem dX9_share_6 : decode cX9_share 6 = .ok (.iconst 1, 1) := by decide +kernel
theorem dX9_share_7 : decode cX9_share 7 = .ok (.istore 4, 2) := by decide +kernel
theorem dX9_share_9 : decode cX9_share 9 = .ok (.iconst 3, 1) := by decide +kernel
theorem dX9_share_10 : decode cX9_share 10 = .ok (.istore 5, 2) := by decide +kernel
theorem dX9_share_12 : decode cX9_share 12 = .ok (.iload 5, 2) := by decide +kernel
theorem dX9_share_14 : decode cX9_share 14 = .ok (.ifCond .le 58, 3) := by decide +kernel
theorem dX9_share_17 : decode cX9_share 17 = .ok (.aload_n 0, 1) := by decide +kernel
theorem dX9_share_18 : decode cX9_share 18 = .ok (.iload_n 2, 1) := by decide +kernel
theorem dX9_share_19 : decode cX9_share 19 = .ok (.iload 5, 2) := by decide +kernel
theorem dX9_share_21 : decode cX9_share 21 = .ok (.iload 5, 2) := by decide +kernel
theorem dX9_share_23 : decode cX9_share 23 = .ok (.invokevirtual 68, 3) := by decide +kernel
theorem dX9_share_26 : decode cX9_share 26 = .ok (.istore 6, 2) := by decide +kernel
theorem dX9_share_28 : decode cX9_share 28 = .ok (.iconst 0, 1) := by decide +kernel
theorem dX9_share_29 : decode cX9_share 29 = .ok (.istore 7, 2) := by decide +kernel
theorem dX9_share_31 : decode cX9_share 31 = .ok (.iload 7, 2) := by decide +kernel
theorem dX9_share_33 : decode cX9_share 33 = .ok (.iload 6, 2) := by decide +kernel
theorem dX9_share_35 : decode cX9_share 35 = .ok (.if_icmp .ge 31, 3) := by decide +kernel
theorem dX9_share_38 : decode cX9_share 38 = .ok (.iload 4, 2) := by decide +kernel
theorem dX9_share_40 : decode cX9_share 40 = .ok (.iload_n 3, 1) := by decide +kernel
theorem dX9_share_41 : decode cX9_share 41 = .ok (.if_icmp .gt 25, 3) := by decide +kernel
theorem dX9_share_44 : decode cX9_share 44 = .ok (.aload_n 0, 1) := by decide +kernel
theorem dX9_share_45 : decode cX9_share 45 = .ok (.iload 5, 2) := by decide +kernel
theorem dX9_share_47 : decode cX9_share 47 = .ok (.invokestatic 102, 3) := by decide +kernel
theorem dX9_share_50 : decode cX9_share 50 = .ok (.i2l, 1) := by decide +kernel
theorem dX9_share_51 : decode cX9_share 51 = .ok (.iload 4, 2) := by decide +kernel
theorem dX9_share_53 : decode cX9_share 53 = .ok (.i2l, 1) := by decide +kernel
theorem dX9_share_54 : decode cX9_share 54 = .ok (.invokevirtual 95, 3) := by decide +kernel
theorem dX9_share_57 : decode cX9_share 57 = .ok (.iinc 4 1, 3) := by decide +kernel
theorem dX9_share_60 : decode cX9_share 60 = .ok (.iinc 7 1, 3) := by decide +kernel
theorem dX9_share_63 : decode cX9_share 63 = .ok (.goto (-32), 3) := by decide +kernel
theorem dX9_share_66 : decode cX9_share 66 = .ok (.iinc 5 (-1), 3) := by decide +kernel
theorem dX9_share_69 : decode cX9_share 69 = .ok (.goto (-57), 3) := by decide +kernel
theorem dX9_share_72 : decode cX9_share 72 = .ok (.aload_n 0, 1) := by decide +kernel
theorem dX9_share_73 : decode cX9_share 73 = .ok (.getfield 75, 3) := by decide +kernel
theorem dX9_share_76 : decode cX9_share 76 = .ok (.lstore 5, 2) := by decide +kernel
theorem dX9_share_78 : decode cX9_share 78 = .ok (.aload_n 0, 1) := by decide +kernel
theorem dX9_share_79 : decode cX9_share 79 = .ok (.getfield 27, 3) := by decide +kernel
theorem dX9_share_82 : decode cX9_share 82 = .ok (.lstore 7, 2) := by decide +kernel
theorem dX9_share_84 : decode cX9_share 84 = .ok (.lload 5, 2) := by decide +kernel
theorem dX9_share_86 : decode cX9_share 86 = .ok (.lconst 0, 1) := by decide +kernel
theorem dX9_share_87 : decode cX9_share 87 = .ok (.lcmp, 1) := by decide +kernel
theorem dX9_share_88 : decode cX9_share 88 = .ok (.ifCond .ne 10, 3) := by decide +kernel
theorem dX9_share_91 : decode cX9_share 91 = .ok (.aload_n 0, 1) := by decide +kernel
theorem dX9_share_92 : decode cX9_share 92 = .ok (.lconst 0, 1) := by decide +kernel
theorem dX9_share_93 : decode cX9_share 93 = .ok (.lconst 1, 1) := by decide +kernel
theorem dX9_share_94 : decode cX9_share 94 = .ok (.invokevirtual 82, 3) := by decide +kernel
theorem dX9_share_97 : decode cX9_share 97 = .ok (.return_, 1) := by decide +kernel
theorem dX9_share_98 : decode cX9_share 98 = .ok (.aload_n 0, 1) := by decide +kernel
theorem dX9_share_99 : decode cX9_share 99 = .ok (.iload_n 1, 1) := by decide +kernel
theorem dX9_share_100 : decode cX9_share 100 = .ok (.iload_n 2, 1) := by decide +kernel
theorem dX9_share_101 : decode cX9_share 101 = .ok (.iload_n 3, 1) := by decide +kernel
theorem dX9_share_102 : decode cX9_share 102 = .ok (.invokevirtual 105, 3) := by decide +kernel
theorem dX9_share_105 : decode cX9_share 105 = .ok (.aload_n 0, 1) := by decide +kernel
theorem dX9_share_106 : decode cX9_share 106 = .ok (.getfield 75, 3) := by decide +kernel
theorem dX9_share_109 : decode cX9_share 109 = .ok (.lload 5, 2) := by decide +kernel
theorem dX9_share_111 : decode cX9_share 111 = .ok (.invokestatic 78, 3) := by decide +kernel
theorem dX9_share_114 : decode cX9_share 114 = .ok (.lstore 9, 2) := by decide +kernel
theorem dX9_share_116 : decode cX9_share 116 = .ok (.lload 7, 2) := by decide +kernel
theorem dX9_share_118 : decode cX9_share 118 = .ok (.aload_n 0, 1) := by decide +kernel
theorem dX9_share_119 : decode cX9_share 119 = .ok (.getfield 27, 3) := by decide +kernel
theorem dX9_share_122 : decode cX9_share 122 = .ok (.invokestatic 78, 3) := by decide +kernel
theorem dX9_share_125 : decode cX9_share 125 = .ok (.lstore 11, 2) := by decide +kernel
theorem dX9_share_127 : decode cX9_share 127 = .ok (.aload_n 0, 1) := by decide +kernel
theorem dX9_share_128 : decode cX9_share 128 = .ok (.aload_n 0, 1) := by decide +kernel
theorem dX9_share_129 : decode cX9_share 129 = .ok (.getfield 75, 3) := by decide +kernel
theorem dX9_share_132 : decode cX9_share 132 = .ok (.lload 9, 2) := by decide +kernel
theorem dX9_share_134 : decode cX9_share 134 = .ok (.ldiv, 1) := by decide +kernel
theorem dX9_share_135 : decode cX9_share 135 = .ok (.lload 7, 2) := by decide +kernel
theorem dX9_share_137 : decode cX9_share 137 = .ok (.lload 11, 2) := by decide +kernel
theorem dX9_share_139 : decode cX9_share 139 = .ok (.ldiv, 1) := by decide +kernel
theorem dX9_share_140 : decode cX9_share 140 = .ok (.lmul, 1) := by decide +kernel
theorem dX9_share_141 : decode cX9_share 141 = .ok (.aload_n 0, 1) := by decide +kernel
theorem dX9_share_142 : decode cX9_share 142 = .ok (.getfield 27, 3) := by decide +kernel
theorem dX9_share_145 : decode cX9_share 145 = .ok (.lload 11, 2) := by decide +kernel
theorem dX9_share_147 : decode cX9_share 147 = .ok (.ldiv, 1) := by decide +kernel
theorem dX9_share_148 : decode cX9_share 148 = .ok (.lload 5, 2) := by decide +kernel
theorem dX9_share_150 : decode cX9_share 150 = .ok (.lload 9, 2) := by decide +kernel
theorem dX9_share_152 : decode cX9_share 152 = .ok (.ldiv, 1) := by decide +kernel
theorem dX9_share_153 : decode cX9_share 153 = .ok (.lmul, 1) := by decide +kernel
theorem dX9_share_154 : decode cX9_share 154 = .ok (.invokevirtual 82, 3) := by decide +kernel
theorem dX9_share_157 : decode cX9_share 157 = .ok (.return_, 1) := by decide +kernel
set_option maxRecDepth 20000 in
theorem ggX9_preference_X9_graded : GoodIn wsX9_preference wsX9_graded := goodIn_r _ [5, 6, 7, 8, 4, 9, 10, 42, 43, 44, 45, 46, 47, 48, 49, 50, 51, 52, 53, 54, 55] (by decide +kernel) (by decide +kernel)
set_option maxRecDepth 20000 in
theorem gX9_preference_X9_graded : GoodIn wsX9_preference (wsV RX9 68 RX9 yX9_graded wsX9_graded) := goodIn_app (goodIn_of _ (by decide +kernel)) ggX9_preference_X9_graded
set_option maxRecDepth 20000 in
theorem ggX9_preference_X9_rs : GoodIn wsX9_preference wsX9_rs := goodIn_r _ [14, 1, 2, 3, 4, 5, 6, 7, 8, 9, 10, 42, 43, 44, 45, 46, 47, 48, 49, 50, 51, 52, 53, 54, 55] (by decide +kernel) (by decide +kernel)
set_option maxRecDepth 20000 in
theorem gX9_preference_X9_rs : GoodIn wsX9_preference (wsV RX9 71 RX9 yX9_rs wsX9_rs) := goodIn_app (goodIn_of _ (by decide +kernel)) ggX9_preference_X9_rs
set_option maxRecDepth 20000 in
theorem ggX9_preference_X9_first : GoodIn wsX9_preference wsX9_first := goodIn_r _ [18, 19, 20, 21, 4, 22, 23, 42, 43, 44, 45, 46, 47, 48, 49, 50, 51, 52, 53, 54, 55] (by decide +kernel) (by decide +kernel)
set_option maxRecDepth 20000 in
theorem gX9_preference_X9_first : GoodIn wsX9_preference (wsV RX9 89 RX9 yX9_first wsX9_first) := goodIn_app (goodIn_of _ (by decide +kernel)) ggX9_preference_X9_first
set_option maxRecDepth 20000 in
theorem ggX9_preference_X9_doc : GoodIn wsX9_preference wsX9_doc := goodIn_r _ [27, 28, 42, 43, 44, 45, 46, 47, 48, 49, 50, 51, 52, 53, 54, 55] (by decide +kernel) (by decide +kernel)
set_option maxRecDepth 20000 in
theorem gX9_preference_X9_doc : GoodIn wsX9_preference (wsV RX9 57 RX9 yX9_doc wsX9_doc) := goodIn_app (goodIn_of _ (by decide +kernel)) ggX9_preference_X9_doc
set_option maxRecDepth 20000 in
theorem ggX9_preference_X9_gradeOf : GoodIn wsX9_preference wsX9_gradeOf := goodIn_r _ [9, 10, 42, 43, 44, 45, 46, 47, 48, 49, 50, 51, 52, 53, 54, 55] (by decide +kernel) (by decide +kernel)
set_option maxRecDepth 20000 in
theorem gX9_preference_X9_gradeOf : GoodIn wsX9_preference (wsV RX9 50 RX9 yX9_gradeOf wsX9_gradeOf) := goodIn_app (goodIn_of _ (by decide +kernel)) ggX9_preference_X9_gradeOf
set_option maxRecDepth 20000 in
theorem ggX9_preference_X9_make : GoodIn wsX9_preference wsX9_make := goodIn_r _ [32, 33, 34, 35, 36, 4, 37, 42, 43, 44, 45, 46, 47, 48, 49, 50, 51, 52, 53, 54, 55] (by decide +kernel) (by decide +kernel)
set_option maxRecDepth 20000 in
theorem gX9_preference_X9_make : GoodIn wsX9_preference (wsV RX9 82 RX9 yX9_make wsX9_make) := goodIn_app (goodIn_of _ (by decide +kernel)) ggX9_preference_X9_make
set_option maxRecDepth 20000 in
theorem ggX9_preference_X9_over : GoodIn wsX9_preference wsX9_over := goodIn_r _ [41, 33, 34, 29, 30, 31, 4, 32, 35, 36, 37, 42, 43, 44, 45, 46, 47, 48, 49, 50, 51, 52, 53, 54, 55] (by decide +kernel) (by decide +kernel)
set_option maxRecDepth 20000 in
theorem gX9_preference_X9_over : GoodIn wsX9_preference (wsV RX9 98 RX9 yX9_over wsX9_over) := goodIn_app (goodIn_of _ (by decide +kernel)) ggX9_preference_X9_over
theorem dX9_preference_0 : decode cX9_preference 0 = .ok (.aload_n 0, 1) := by decide +kernel
theorem dX9_preference_1 : decode cX9_preference 1 = .ok (.iload_n 2, 1) := by decide +kernel
theorem dX9_preference_2 : decode cX9_preference 2 = .ok (.iconst 0, 1) := by decide +kernel
theorem dX9_preference_3 : decode cX9_preference 3 = .ok (.iconst 0, 1) := by decide +kernel
theorem dX9_preference_4 : decode cX9_preference 4 = .ok (.invokevirtual 68, 3) := by decide +kernel
theorem dX9_preference_7 : decode cX9_preference 7 = .ok (.istore 4, 2) := by decide +kernel
theorem dX9_preference_9 : decode cX9_preference 9 = .ok (.aload_n 0, 1) := by decide +kernel
theorem dX9_preference_10 : decode cX9_preference 10 = .ok (.iload_n 2, 1) := by decide +kernel
theorem dX9_preference_11 : decode cX9_preference 11 = .ok (.invokevirtual 71, 3) := by decide +kernel
theorem dX9_preference_14 : decode cX9_preference 14 = .ok (.iload 4, 2) := by decide +kernel
theorem dX9_preference_16 : decode cX9_preference 16 = .ok (.if_icmp .ge 11, 3) := by decide +kernel
theorem dX9_preference_19 : decode cX9_preference 19 = .ok (.aload_n 0, 1) := by decide +kernel
theorem dX9_preference_20 : decode cX9_preference 20 = .ok (.iload_n 2, 1) := by decide +kernel
theorem dX9_preference_21 : decode cX9_preference 21 = .ok (.invokevirtual 71, 3) := by decide +kernel
theorem dX9_preference_24 : decode cX9_preference 24 = .ok (.goto 5, 3) := by decide +kernel
theorem dX9_preference_27 : decode cX9_preference 27 = .ok (.iload 4, 2) := by decide +kernel
theorem dX9_preference_29 : decode cX9_preference 29 = .ok (.istore 4, 2) := by decide +kernel
theorem dX9_preference_31 : decode cX9_preference 31 = .ok (.lconst 0, 1) := by decide +kernel
theorem dX9_preference_32 : decode cX9_preference 32 = .ok (.lstore 5, 2) := by decide +kernel
theorem dX9_preference_34 : decode cX9_preference 34 = .ok (.iconst 0, 1) := by decide +kernel
theorem dX9_preference_35 : decode cX9_preference 35 = .ok (.istore 7, 2) := by decide +kernel
theorem dX9_preference_37 : decode cX9_preference 37 = .ok (.iconst 0, 1) := by decide +kernel
theorem dX9_preference_38 : decode cX9_preference 38 = .ok (.istore 8, 2) := by decide +kernel
theorem dX9_preference_40 : decode cX9_preference 40 = .ok (.iload 8, 2) := by decide +kernel
theorem dX9_preference_42 : decode cX9_preference 42 = .ok (.aload_n 0, 1) := by decide +kernel
