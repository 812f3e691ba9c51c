theorem dX8_pool_39 : decode cX8_pool 39 = .ok (.bipush (-3), 2) := by decide +kernel
theorem dX8_pool_41 : decode cX8_pool 41 = .ok (.goto 5, 3) := by decide +kernel
theorem dX8_pool_44 : decode cX8_pool 44 = .ok (.iload 5, 2) := by decide +kernel
theorem dX8_pool_46 : decode cX8_pool 46 = .ok (.ireturn, 1) := by decide +kernel
set_option maxRecDepth 20000 in
theorem ggX8_laid_X8_rowOf : GoodIn wsX8_laid wsX8_rowOf := goodIn_r _ [6, 7, 8, 9, 5, 10, 11, 12, 13, 14, 15, 16, 17, 18, 19, 20, 21, 22, 23, 24, 25, 26, 27, 74, 75, 76, 77, 78, 79, 80, 81, 82, 83, 84] (by decide +kernel) (by decide +kernel)
set_option maxRecDepth 20000 in
theorem gX8_laid_X8_rowOf : GoodIn wsX8_laid (wsV RX8 80 RX8 yX8_rowOf wsX8_rowOf) := goodIn_app (goodIn_of _ (by decide +kernel)) ggX8_laid_X8_rowOf
set_option maxRecDepth 20000 in
theorem ggX8_laid_X4_lay : GoodIn wsX8_laid wsX4_lay := goodIn_r _ [32, 33, 34, 35, 36, 37, 38, 31, 39, 40, 41, 42, 43, 44, 45, 46, 25, 47, 48, 49, 50, 51, 52, 53, 54, 55, 56, 57, 58, 59, 60, 61, 62, 63, 64, 65, 85, 86, 87, 88, 89, 90, 91, 82, 83, 84] (by decide +kernel) (by decide +kernel)
set_option maxRecDepth 20000 in
theorem gX8_laid_X4_lay : GoodIn wsX8_laid (wsV RX8 162 RX4 yX4_lay wsX4_lay) := goodIn_app (goodIn_of _ (by decide +kernel)) ggX8_laid_X4_lay
set_option maxRecDepth 20000 in
theorem ggX8_laid_X4_documentAt : GoodIn wsX8_laid wsX4_documentAt := goodIn_r _ [69, 34, 64, 85, 86, 87, 88, 89, 90, 91] (by decide +kernel) (by decide +kernel)
set_option maxRecDepth 20000 in
theorem gX8_laid_X4_documentAt : GoodIn wsX8_laid (wsV RX8 166 RX4 yX4_documentAt wsX4_documentAt) := goodIn_app (goodIn_of _ (by decide +kernel)) ggX8_laid_X4_documentAt
set_option maxRecDepth 20000 in
theorem ggX8_laid_X4_isFromSecond : GoodIn wsX8_laid wsX4_isFromSecond := goodIn_r _ [73, 65, 85, 86, 87, 88, 89, 90, 91] (by decide +kernel) (by decide +kernel)
set_option maxRecDepth 20000 in
theorem gX8_laid_X4_isFromSecond : GoodIn wsX8_laid (wsV RX8 167 RX4 yX4_isFromSecond wsX4_isFromSecond) := goodIn_app (goodIn_of _ (by decide +kernel)) ggX8_laid_X4_isFromSecond
theorem dX8_laid_0 : decode cX8_laid 0 = .ok (.aload_n 0, 1) := by decide +kernel
theorem dX8_laid_1 : decode cX8_laid 1 = .ok (.iload_n 1, 1) := by decide +kernel
theorem dX8_laid_2 : decode cX8_laid 2 = .ok (.iload_n 3, 1) := by decide +kernel
theorem dX8_laid_3 : decode cX8_laid 3 = .ok (.invokevirtual 80, 3) := by decide +kernel
theorem dX8_laid_6 : decode cX8_laid 6 = .ok (.astore 6, 2) := by decide +kernel
theorem dX8_laid_8 : decode cX8_laid 8 = .ok (.aload_n 0, 1) := by decide +kernel
theorem dX8_laid_9 : decode cX8_laid 9 = .ok (.iload_n 2, 1) := by decide +kernel
theorem dX8_laid_10 : decode cX8_laid 10 = .ok (.iload_n 3, 1) := by decide +kernel
theorem dX8_laid_11 : decode cX8_laid 11 = .ok (.invokevirtual 80, 3) := by decide +kernel
theorem dX8_laid_14 : decode cX8_laid 14 = .ok (.astore 7, 2) := by decide +kernel
theorem dX8_laid_16 : decode cX8_laid 16 = .ok (.aload 6, 2) := by decide +kernel
theorem dX8_laid_18 : decode cX8_laid 18 = .ok (.ifnull 8, 3) := by decide +kernel
theorem dX8_laid_21 : decode cX8_laid 21 = .ok (.aload 7, 2) := by decide +kernel
theorem dX8_laid_23 : decode cX8_laid 23 = .ok (.ifnonnull 5, 3) := by decide +kernel
theorem dX8_laid_26 : decode cX8_laid 26 = .ok (.iconst (-1), 1) := by decide +kernel
theorem dX8_laid_27 : decode cX8_laid 27 = .ok (.ireturn, 1) := by decide +kernel
theorem dX8_laid_28 : decode cX8_laid 28 = .ok (.aload_n 0, 1) := by decide +kernel
theorem dX8_laid_29 : decode cX8_laid 29 = .ok (.getfield 38, 3) := by decide +kernel
theorem dX8_laid_32 : decode cX8_laid 32 = .ok (.aload 6, 2) := by decide +kernel
theorem dX8_laid_34 : decode cX8_laid 34 = .ok (.aload 7, 2) := by decide +kernel
theorem dX8_laid_36 : decode cX8_laid 36 = .ok (.iload 4, 2) := by decide +kernel
theorem dX8_laid_38 : decode cX8_laid 38 = .ok (.invokevirtual 162, 3) := by decide +kernel
theorem dX8_laid_41 : decode cX8_laid 41 = .ok (.aload_n 0, 1) := by decide +kernel
theorem dX8_laid_42 : decode cX8_laid 42 = .ok (.getfield 38, 3) := by decide +kernel
theorem dX8_laid_45 : decode cX8_laid 45 = .ok (.iload 5, 2) := by decide +kernel
theorem dX8_laid_47 : decode cX8_laid 47 = .ok (.invokevirtual 166, 3) := by decide +kernel
theorem dX8_laid_50 : decode cX8_laid 50 = .ok (.istore 8, 2) := by decide +kernel
theorem dX8_laid_52 : decode cX8_laid 52 = .ok (.iload 8, 2) := by decide +kernel
theorem dX8_laid_54 : decode cX8_laid 54 = .ok (.iconst (-1), 1) := by decide +kernel
theorem dX8_laid_55 : decode cX8_laid 55 = .ok (.if_icmp .ne 6, 3) := by decide +kernel
theorem dX8_laid_58 : decode cX8_laid 58 = .ok (.bipush (-3), 2) := by decide +kernel
theorem dX8_laid_60 : decode cX8_laid 60 = .ok (.ireturn, 1) := by decide +kernel
theorem dX8_laid_61 : decode cX8_laid 61 = .ok (.aload_n 0, 1) := by decide +kernel
theorem dX8_laid_62 : decode cX8_laid 62 = .ok (.getfield 38, 3) := by decide +kernel
theorem dX8_laid_65 : decode cX8_laid 65 = .ok (.iload 5, 2) := by decide +kernel
theorem dX8_laid_67 : decode cX8_laid 67 = .ok (.invokevirtual 167, 3) := by decide +kernel
theorem dX8_laid_70 : decode cX8_laid 70 = .ok (.ifCond .eq 11, 3) := by decide +kernel
theorem dX8_laid_73 : decode cX8_laid 73 = .ok (.iload 8, 2) := by decide +kernel
theorem dX8_laid_75 : decode cX8_laid 75 = .ok (.bipush 100, 2) := by decide +kernel
theorem dX8_laid_77 : decode cX8_laid 77 = .ok (.iadd, 1) := by decide +kernel
theorem dX8_laid_78 : decode cX8_laid 78 = .ok (.goto 5, 3) := by decide +kernel
theorem dX8_laid_81 : decode cX8_laid 81 = .ok (.iload 8, 2) := by decide +kernel
theorem dX8_laid_83 : decode cX8_laid 83 = .ok (.ireturn, 1) := by decide +kernel
set_option maxRecDepth 20000 in
theorem ggX8_clicks_X8_questionOf : GoodIn wsX8_clicks wsX8_questionOf := goodIn_r _ [6, 7, 88, 89, 90, 91, 92, 93] (by decide +kernel) (by decide +kernel)
set_option maxRecDepth 20000 in
theorem gX8_clicks_X8_questionOf : GoodIn wsX8_clicks (wsV RX8 43 RX8 yX8_questionOf wsX8_questionOf) := goodIn_app (goodIn_of _ (by decide +kernel)) ggX8_clicks_X8_questionOf
set_option maxRecDepth 20000 in
theorem ggX8_clicks_X8_rowOf : GoodIn wsX8_clicks wsX8_rowOf := goodIn_r _ [11, 12, 13, 14, 5, 15, 2, 3, 4, 6, 7, 16, 17, 18, 19, 20, 21, 22, 23, 24, 25, 26, 27, 88, 89, 90, 91, 92, 93, 94, 95, 96, 97, 98] (by decide +kernel) (by decide +kernel)
set_option maxRecDepth 20000 in
theorem gX8_clicks_X8_rowOf : GoodIn wsX8_clicks (wsV RX8 80 RX8 yX8_rowOf wsX8_rowOf) := goodIn_app (goodIn_of _ (by decide +kernel)) ggX8_clicks_X8_rowOf
set_option maxRecDepth 20000 in
theorem ggX8_clicks_X4_lay : GoodIn wsX8_clicks wsX4_lay := goodIn_r _ [32, 33, 34, 35, 36, 37, 38, 31, 39, 40, 41, 42, 43, 44, 45, 46, 25, 47, 48, 49, 50, 51, 52, 53, 54, 55, 56, 57, 58, 59, 60, 61, 62, 63, 64, 65, 99, 100, 101, 102, 103, 104, 105, 96, 97, 98] (by decide +kernel) (by decide +kernel)
set_option maxRecDepth 20000 in
theorem gX8_clicks_X4_lay : GoodIn wsX8_clicks (wsV RX8 162 RX4 yX4_lay wsX4_lay) := goodIn_app (goodIn_of _ (by decide +kernel)) ggX8_clicks_X4_lay
set_option maxRecDepth 20000 in
theorem ggX8_clicks_X4_click : GoodIn wsX8_clicks wsX4_click := goodIn_r _ [69, 70, 71, 34, 64, 65, 54, 55, 56, 31, 57, 58, 33, 59, 72, 73, 74, 19, 75, 76, 77, 78, 79, 99, 100, 101, 102, 103, 104, 105, 94, 95] (by decide +kernel) (by decide +kernel)
set_option maxRecDepth 20000 in
theorem gX8_clicks_X4_click : GoodIn wsX8_clicks (wsV RX8 170 RX4 yX4_click wsX4_click) := goodIn_app (goodIn_of _ (by decide +kernel)) ggX8_clicks_X4_click
set_option maxRecDepth 20000 in
theorem ggX8_clicks_X4_firstClicks : GoodIn wsX8_clicks wsX4_firstClicks := goodIn_r _ [83, 70, 99, 100, 101, 102, 103, 104, 105] (by decide +kernel) (by decide +kernel)
set_option maxRecDepth 20000 in
theorem gX8_clicks_X4_firstClicks : GoodIn wsX8_clicks (wsV RX8 174 RX4 yX4_firstClicks wsX4_firstClicks) := goodIn_app (goodIn_of _ (by decide +kernel)) ggX8_clicks_X4_firstClicks
set_option maxRecDepth 20000 in
theorem ggX8_clicks_X4_secondClicks : GoodIn wsX8_clicks wsX4_secondClicks := goodIn_r _ [87, 71, 99, 100, 101, 102, 103, 104, 105] (by decide +kernel) (by decide +kernel)
set_option maxRecDepth 20000 in
theorem gX8_clicks_X4_secondClicks : GoodIn wsX8_clicks (wsV RX8 177 RX4 yX4_secondClicks wsX4_secondClicks) := goodIn_app (goodIn_of _ (by decide +kernel)) ggX8_clicks_X4_secondClicks
theorem dX8_clicks_0 : decode cX8_clicks 0 = .ok (.aload_n 0, 1) := by decide +kernel
theorem dX8_clicks_1 : decode cX8_clicks 1 = .ok (.iload_n 3, 1) := by decide +kernel
theorem dX8_clicks_2 : decode cX8_clicks 2 = .ok (.invokevirtual 43, 3) := by decide +kernel
theorem dX8_clicks_5 : decode cX8_clicks 5 = .ok (.astore 5, 2) := by decide +kernel
theorem dX8_clicks_7 : decode cX8_clicks 7 = .ok (.aload_n 0, 1) := by decide +kernel
theorem dX8_clicks_8 : decode cX8_clicks 8 = .ok (.iload_n 1, 1) := by decide +kernel
theorem dX8_clicks_9 : decode cX8_clicks 9 = .ok (.iload_n 3, 1) := by decide +kernel
theorem dX8_clicks_10 : decode cX8_clicks 10 = .ok (.invokevirtual 80, 3) := by decide +kernel
theorem dX8_clicks_13 : decode cX8_clicks 13 = .ok (.astore 6, 2) := by decide +kernel
theorem dX8_clicks_15 : decode cX8_clicks 15 = .ok (.aload_n 0, 1) := by decide +kernel
theorem dX8_clicks_16 : decode cX8_clicks 16 = .ok (.iload_n 2, 1) := by decide +kernel
theorem dX8_clicks_17 : decode cX8_clicks 17 = .ok (.iload_n 3, 1) := by decide +kernel
theorem dX8_clicks_18 : decode cX8_clicks 18 = .ok (.invokevirtual 80, 3) := by decide +kernel
theorem dX8_clicks_21 : decode cX8_clicks 21 = .ok (.astore 7, 2) := by decide +kernel
theorem dX8_clicks_23 : decode cX8_clicks 23 = .ok (.aload 5, 2) := by decide +kernel
theorem dX8_clicks_25 : decode cX8_clicks 25 = .ok (.ifnull 13, 3) := by decide +kernel
theorem dX8_clicks_28 : decode cX8_clicks 28 = .ok (.aload 6, 2) := by decide +kernel
theorem dX8_clicks_30 : decode cX8_clicks 30 = .ok (.ifnull 8, 3) := by decide +kernel
theorem dX8_clicks_33 : decode cX8_clicks 33 = .ok (.aload 7, 2) := by decide +kernel
theorem dX8_clicks_35 : decode cX8_clicks 35 = .ok (.ifnonnull 5, 3) := by decide +kernel
theorem dX8_clicks_38 : decode cX8_clicks 38 = .ok (.iconst (-1), 1) := by decide +kernel
theorem dX8_clicks_39 : decode cX8_clicks 39 = .ok (.ireturn, 1) := by decide +kernel
theorem dX8_clicks_40 : decode cX8_clicks 40 = .ok (.aload_n 0, 1) := by decide +kernel
theorem dX8_clicks_41 : decode cX8_clicks 41 = .ok (.getfield 38, 3) := by decide +kernel
theorem dX8_clicks_44 : decode cX8_clicks 44 = .ok (.aload 6, 2) := by decide +kernel
theorem dX8_clicks_46 : decode cX8_clicks 46 = .ok (.aload 7, 2) := by decide +kernel
theorem dX8_clicks_48 : decode cX8_clicks 48 = .ok (.iload 4, 2) := by decide +kernel
theorem dX8_clicks_50 : decode cX8_clicks 50 = .ok (.invokevirtual 162, 3) := by decide +kernel
theorem dX8_clicks_53 : decode cX8_clicks 53 = .ok (.aload_n 0, 1) := by decide +kernel
theorem dX8_clicks_54 : decode cX8_clicks 54 = .ok (.getfield 38, 3) := by decide +kernel
theorem dX8_clicks_57 : decode cX8_clicks 57 = .ok (.aload 5, 2) := by decide +kernel
theorem dX8_clicks_59 : decode cX8_clicks 59 = .ok (.invokevirtual 170, 3) := by decide +kernel
theorem dX8_clicks_62 : decode cX8_clicks 62 = .ok (.aload_n 0, 1) := by decide +kernel
theorem dX8_clicks_63 : decode cX8_clicks 63 = .ok (.getfield 38, 3) := by decide +kernel
theorem dX8_clicks_66 : decode cX8_clicks 66 = .ok (.invokevirtual 174, 3) := by decide +kernel
theorem dX8_clicks_69 : decode cX8_clicks 69 = .ok (.bipush 100, 2) := by decide +kernel
theorem dX8_clicks_71 : decode cX8_clicks 71 = .ok (.aload_n 0, 1) := by decide +kernel
theorem dX8_clicks_72 : decode cX8_clicks 72 = .ok (.getfield 38, 3) := by decide +kernel
theorem dX8_clicks_75 : decode cX8_clicks 75 = .ok (.invokevirtual 177, 3) := by decide +kernel
theorem dX8_clicks_78 : decode cX8_clicks 78 = .ok (.imul, 1) := by decide +kernel
theorem dX8_clicks_79 : decode cX8_clicks 79 = .ok (.iadd, 1) := by decide +kernel
theorem dX8_clicks_80 : decode cX8_clicks 80 = .ok (.ireturn, 1) := by decide +kernel
set_option maxRecDepth 20000 in
theorem ggX8_prefer_X8_questionOf : GoodIn wsX8_prefer wsX8_questionOf := goodIn_r _ [6, 7, 88, 89, 90, 91, 92, 93] (by decide +kernel) (by decide +kernel)
set_option maxRecDepth 20000 in
theorem gX8_prefer_X8_questionOf : GoodIn wsX8_prefer (wsV RX8 43 RX8 yX8_questionOf wsX8_questionOf) := goodIn_app (goodIn_of _ (by decide +kernel)) ggX8_prefer_X8_questionOf
set_option maxRecDepth 20000 in
theorem ggX8_prefer_X8_rowOf : GoodIn wsX8_prefer wsX8_rowOf := goodIn_r _ [11, 12, 13, 14, 5, 15, 2, 3, 4, 6, 7, 16, 17, 18, 19, 20, 21, 22, 23, 24, 25, 26, 27, 88, 89, 90, 91, 92, 93, 94, 95, 96, 97, 98] (by decide +kernel) (by decide +kernel)
set_option maxRecDepth 20000 in
theorem gX8_prefer_X8_rowOf : GoodIn wsX8_prefer (wsV RX8 80 RX8 yX8_rowOf wsX8_rowOf) := goodIn_app (goodIn_of _ (by decide +kernel)) ggX8_prefer_X8_rowOf
set_option maxRecDepth 20000 in
theorem ggX8_prefer_X4_lay : GoodIn wsX8_prefer wsX4_lay := goodIn_r _ [32, 33, 34, 35, 36, 37, 38, 31, 39, 40, 41, 42, 43, 44, 45, 46, 25, 47, 48, 49, 50, 51, 52, 53, 54, 55, 56, 57, 58, 59, 60, 61, 62, 63, 64, 65, 99, 100, 101, 102, 103, 104, 105, 96, 97, 98] (by decide +kernel) (by decide +kernel)
set_option maxRecDepth 20000 in
theorem gX8_prefer_X4_lay : GoodIn wsX8_prefer (wsV RX8 162 RX4 yX4_lay wsX4_lay) := goodIn_app (goodIn_of _ (by decide +kernel)) ggX8_prefer_X4_lay
set_option maxRecDepth 20000 in
theorem ggX8_prefer_X4_click : GoodIn wsX8_prefer wsX4_click := goodIn_r _ [69, 70, 71, 34, 64, 65, 54, 55, 56, 31, 57, 58, 33, 59, 72, 73, 74, 19, 75, 76, 77, 78, 79, 99, 100, 101, 102, 103, 104, 105, 94, 95] (by decide +kernel) (by decide +kernel)
set_option maxRecDepth 20000 in
theorem gX8_prefer_X4_click : GoodIn wsX8_prefer (wsV RX8 170 RX4 yX4_click wsX4_click) := goodIn_app (goodIn_of _ (by decide +kernel)) ggX8_prefer_X4_click
set_option maxRecDepth 20000 in
theorem ggX8_prefer_X4_firstClicks : GoodIn wsX8_prefer wsX4_firstClicks := goodIn_r _ [83, 70, 99, 100, 101, 102, 103, 104, 105] (by decide +kernel) (by decide +kernel)
set_option maxRecDepth 20000 in
theorem gX8_prefer_X4_firstClicks : GoodIn wsX8_prefer (wsV RX8 174 RX4 yX4_firstClicks wsX4_firstClicks) := goodIn_app (goodIn_of _ (by decide +kernel)) ggX8_prefer_X4_firstClicks
set_option maxRecDepth 20000 in
theorem ggX8_prefer_X4_secondClicks : GoodIn wsX8_prefer wsX4_secondClicks := goodIn_r _ [87, 71, 99, 100, 101, 102, 103, 104, 105] (by decide +kernel) (by decide +kernel)
set_option maxRecDepth 20000 in
theorem gX8_prefer_X4_secondClicks : GoodIn wsX8_prefer (wsV RX8 177 RX4 yX4_secondClicks wsX4_secondClicks) := goodIn_app (goodIn_of _ (by decide +kernel)) ggX8_prefer_X4_secondClicks
theorem dX8_prefer_0 : decode cX8_prefer 0 = .ok (.aload_n 0, 1) := by decide +kernel
theorem dX8_prefer_1 : decode cX8_prefer 1 = .ok (.iload_n 3, 1) := by decide +kernel
theorem dX8_prefer_2 : decode cX8_prefer 2 = .ok (.invokevirtual 43, 3) := by decide +kernel
theorem dX8_prefer_5 : decode cX8_prefer 5 = .ok (.astore 6, 2) := by decide +kernel
theorem dX8_prefer_7 : decode cX8_prefer 7 = .ok (.aload_n 0, 1) := by decide +kernel
theorem dX8_prefer_8 : decode cX8_prefer 8 = .ok (.iload_n 1, 1) := by decide +kernel
theorem dX8_prefer_9 : decode cX8_prefer 9 = .ok (.iload_n 3, 1) := by decide +kernel
theorem dX8_prefer_10 : decode cX8_prefer 10 = .ok (.invokevirtual 80, 3) := by decide +kernel
theorem dX8_prefer_13 : decode cX8_prefer 13 = .ok (.astore 7, 2) := by decide +kernel
theorem dX8_prefer_15 : decode cX8_prefer 15 = .ok (.aload_n 0, 1) := by decide +kernel
theorem dX8_prefer_16 : decode cX8_prefer 16 = .ok (.iload_n 2, 1) := by decide +kernel
theorem dX8_prefer_17 : decode cX8_prefer 17 = .ok (.iload_n 3, 1) := by decide +kernel
theorem dX8_prefer_18 : decode cX8_prefer 18 = .ok (.invokevirtual 80, 3) := by decide +kernel
theorem dX8_prefer_21 : decode cX8_prefer 21 = .ok (.astore 8, 2) := by decide +kernel
theorem dX8_prefer_23 : decode cX8_prefer 23 = .ok (.aload 6, 2) := by decide +kernel
theorem dX8_prefer_25 : decode cX8_prefer 25 = .ok (.ifnull 13, 3) := by decide +kernel
theorem dX8_prefer_28 : decode cX8_prefer 28 = .ok (.aload 7, 2) := by decide +kernel
theorem dX8_prefer_30 : decode cX8_prefer 30 = .ok (.ifnull 8, 3) := by decide +kernel
theorem dX8_prefer_33 : decode cX8_prefer 33 = .ok (.aload 8, 2) := by decide +kernel
theorem dX8_prefer_35 : decode cX8_prefer 35 = .ok (.ifnonnull 5, 3) := by decide +kernel
theorem dX8_prefer_38 : decode cX8_prefer 38 = .ok (.iconst (-1), 1) := by decide +kernel
theorem dX8_prefer_39 : decode cX8_prefer 39 = .ok (.ireturn, 1) := by decide +kernel
theorem dX8_prefer_40 : decode cX8_prefer 40 = .ok (.iload 5, 2) := by decide +kernel
theorem dX8_prefer_42 : decode cX8_prefer 42 = .ok (.iconst 1, 1) := by decide +kernel
theorem dX8_prefer_43 : decode cX8_prefer 43 = .ok (.if_icmp .lt 10, 3) := by decide +kernel
theorem dX8_prefer_46 : decode cX8_prefer 46 = .ok (.iload 5, 2) := by decide +kernel
theorem dX8_prefer_48 : decode cX8_prefer 48 = .ok (.bipush 50, 2) := by decide +kernel
theorem dX8_prefer_50 : decode cX8_prefer 50 = .ok (.if_icmp .le 6, 3) := by decide +kernel
theorem dX8_prefer_53 : decode cX8_prefer 53 = .ok (.bipush (-2), 2) := by decide +kernel
theorem dX8_prefer_55 : decode cX8_prefer 55 = .ok (.ireturn, 1) := by decide +kernel
theorem dX8_prefer_56 : decode cX8_prefer 56 = .ok (.iconst 0, 1) := by decide +kernel
theorem dX8_prefer_57 : decode cX8_prefer 57 = .ok (.istore 9, 2) := by decide +kernel
theorem dX8_prefer_59 : decode cX8_prefer 59 = .ok (.iconst 0, 1) := by decide +kernel
theorem dX8_prefer_60 : decode cX8_prefer 60 = .ok (.istore 10, 2) := by decide +kernel
theorem dX8_prefer_62 : decode cX8_prefer 62 = .ok (.iload 10, 2) := by decide +kernel
theorem dX8_prefer_64 : decode cX8_prefer 64 = .ok (.iload 5, 2) := by decide +kernel
theorem dX8_prefer_66 : decode cX8_prefer 66 = .ok (.if_icmp .ge 77, 3) := by decide +kernel
theorem dX8_prefer_69 : decode cX8_prefer 69 = .ok (.aload_n 0, 1) := by decide +kernel
theorem dX8_prefer_70 : decode cX8_prefer 70 = .ok (.getfield 38, 3) := by decide +kernel
theorem dX8_prefer_73 : decode cX8_prefer 73 = .ok (.aload 7, 2) := by decide +kernel
theorem dX8_prefer_75 : decode cX8_prefer 75 = .ok (.aload 8, 2) := by decide +kernel
theorem dX8_prefer_77 : decode cX8_prefer 77 = .ok (.iload 4, 2) := by decide +kernel
theorem dX8_prefer_79 : decode cX8_prefer 79 = .ok (.iload 10, 2) := by decide +kernel
theorem dX8_prefer_81 : decode cX8_prefer 81 = .ok (.iadd, 1) := by decide +kernel
theorem dX8_prefer_82 : decode cX8_prefer 82 = .ok (.invokevirtual 162, 3) := by decide +kernel
theorem dX8_prefer_85 : decode cX8_prefer 85 = .ok (.aload_n 0, 1) := by decide +kernel
theorem dX8_prefer_86 : decode cX8_prefer 86 = .ok (.getfield 38, 3) := by decide +kernel
theorem dX8_prefer_89 : decode cX8_prefer 89 = .ok (.aload 6, 2) := by decide +kernel
theorem dX8_prefer_91 : decode cX8_prefer 91 = .ok (.invokevirtual 170, 3) := by decide +kernel
theorem dX8_prefer_94 : decode cX8_prefer 94 = .ok (.aload_n 0, 1) := by decide +kernel
theorem dX8_prefer_95 : decode cX8_prefer 95 = .ok (.getfield 38, 3) := by decide +kernel
theorem dX8_prefer_98 : decode cX8_prefer 98 = .ok (.invokevirtual 174, 3) := by decide +kernel
theorem dX8_prefer_101 : decode cX8_prefer 101 = .ok (.aload_n 0, 1) := by decide +kernel
theorem dX8_prefer_102 : decode cX8_prefer 102 = .ok (.getfield 38, 3) := by decide +kernel
theorem dX8_prefer_105 : decode cX8_prefer 105 = .ok (.invokevirtual 177, 3) := by decide +kernel
theorem dX8_prefer_108 : decode cX8_prefer 108 = .ok (.if_icmp .le 9, 3) := by decide +kernel
theorem dX8_prefer_111 : decode cX8_prefer 111 = .ok (.iinc 9 1, 3) := by decide +kernel
theorem dX8_prefer_114 : decode cX8_prefer 114 = .ok (.goto 23, 3) := by decide +kernel
theorem dX8_prefer_117 : decode cX8_prefer 117 = .ok (.aload_n 0, 1) := by decide +kernel
theorem dX8_prefer_118 : decode cX8_prefer 118 = .ok (.getfield 38, 3) := by decide +kernel
theorem dX8_prefer_121 : decode cX8_prefer 121 = .ok (.invokevirtual 174, 3) := by decide +kernel
theorem dX8_prefer_124 : decode cX8_prefer 124 = .ok (.aload_n 0, 1) := by decide +kernel
theorem dX8_prefer_125 : decode cX8_prefer 125 = .ok (.getfield 38, 3) := by decide +kernel
theorem dX8_prefer_128 : decode cX8_prefer 128 = .ok (.invokevirtual 177, 3) := by decide +kernel
theorem dX8_prefer_131 : decode cX8_prefer 131 = .ok (.if_icmp .ge 6, 3) := by decide +kernel
theorem dX8_prefer_134 : decode cX8_prefer 134 = .ok (.iinc 9 100, 3) := by decide +kernel
theorem dX8_prefer_137 : decode cX8_prefer 137 = .ok (.iinc 10 1, 3) := by decide +kernel
theorem dX8_prefer_140 : decode cX8_prefer 140 = .ok (.goto (-78), 3) := by decide +kernel
theorem dX8_prefer_143 : decode cX8_prefer 143 = .ok (.iload 9, 2) := by decide +kernel
theorem dX8_prefer_145 : decode cX8_prefer 145 = .ok (.ireturn, 1) := by decide +kernel
theorem dX8_isRanker_0 : decode cX8_isRanker 0 = .ok (.iload_n 0, 1) := by decide +kernel
theorem dX8_isRanker_1 : decode cX8_isRanker 1 = .ok (.ifCond .lt 12, 3) := by decide +kernel
theorem dX8_isRanker_4 : decode cX8_isRanker 4 = .ok (.iload_n 0, 1) := by decide +kernel
theorem dX8_isRanker_5 : decode cX8_isRanker 5 = .ok (.iconst 4, 1) := by decide +kernel
theorem dX8_isRanker_6 : decode cX8_isRanker 6 = .ok (.if_icmp .ge 7, 3) := by decide +kernel
theorem dX8_isRanker_9 : decode cX8_isRanker 9 = .ok (.iconst 1, 1) := by decide +kernel
theorem dX8_isRanker_10 : decode cX8_isRanker 10 = .ok (.goto 4, 3) := by decide +kernel
theorem dX8_isRanker_13 : decode cX8_isRanker 13 = .ok (.iconst 0, 1) := by decide +kernel
theorem dX8_isRanker_14 : decode cX8_isRanker 14 = .ok (.ireturn, 1) := by decide +kernel
theorem dX8_isDocument_0 : decode cX8_isDocument 0 = .ok (.iload_n 0, 1) := by decide +kernel
theorem dX8_isDocument_1 : decode cX8_isDocument 1 = .ok (.ifCond .lt 13, 3) := by decide +kernel
theorem dX8_isDocument_4 : decode cX8_isDocument 4 = .ok (.iload_n 0, 1) := by decide +kernel
theorem dX8_isDocument_5 : decode cX8_isDocument 5 = .ok (.bipush 24, 2) := by decide +kernel
theorem dX8_isDocument_7 : decode cX8_isDocument 7 = .ok (.if_icmp .ge 7, 3) := by decide +kernel
theorem dX8_isDocument_10 : decode cX8_isDocument 10 = .ok (.iconst 1, 1) := by decide +kernel
theorem dX8_isDocument_11 : decode cX8_isDocument 11 = .ok (.goto 4, 3) := by decide +kernel
theorem dX8_isDocument_14 : decode cX8_isDocument 14 = .ok (.iconst 0, 1) := by decide +kernel
theorem dX8_isDocument_15 : decode cX8_isDocument 15 = .ok (.ireturn, 1) := by decide +kernel
theorem dX8_isDepth_0 : decode cX8_isDepth 0 = .ok (.iload_n 0, 1) := by decide +kernel
theorem dX8_isDepth_1 : decode cX8_isDepth 1 = .ok (.iconst 1, 1) := by decide +kernel
theorem dX8_isDepth_2 : decode cX8_isDepth 2 = .ok (.if_icmp .lt 13, 3) := by decide +kernel
theorem dX8_isDepth_5 : decode cX8_isDepth 5 = .ok (.iload_n 0, 1) := by decide +kernel
theorem dX8_isDepth_6 : decode cX8_isDepth 6 = .ok (.bipush 16, 2) := by decide +kernel
theorem dX8_isDepth_8 : decode cX8_isDepth 8 = .ok (.if_icmp .gt 7, 3) := by decide +kernel
theorem dX8_isDepth_11 : decode cX8_isDepth 11 = .ok (.iconst 1, 1) := by decide +kernel
theorem dX8_isDepth_12 : decode cX8_isDepth 12 = .ok (.goto 4, 3) := by decide +kernel
theorem dX8_isDepth_15 : decode cX8_isDepth 15 = .ok (.iconst 0, 1) := by decide +kernel
theorem dX8_isDepth_16 : decode cX8_isDepth 16 = .ok (.ireturn, 1) := by decide +kernel
theorem dX8_isMeasure_0 : decode cX8_isMeasure 0 = .ok (.iload_n 0, 1) := by decide +kernel
theorem dX8_isMeasure_1 : decode cX8_isMeasure 1 = .ok (.ifCond .lt 13, 3) := by decide +kernel
theorem dX8_isMeasure_4 : decode cX8_isMeasure 4 = .ok (.iload_n 0, 1) := by decide +kernel
theorem dX8_isMeasure_5 : decode cX8_isMeasure 5 = .ok (.bipush 8, 2) := by decide +kernel
theorem dX8_isMeasure_7 : decode cX8_isMeasure 7 = .ok (.if_icmp .gt 7, 3) := by decide +kernel
theorem dX8_isMeasure_10 : decode cX8_isMeasure 10 = .ok (.iconst 1, 1) := by decide +kernel
theorem dX8_isMeasure_11 : decode cX8_isMeasure 11 = .ok (.goto 4, 3) := by decide +kernel
theorem dX8_isMeasure_14 : decode cX8_isMeasure 14 = .ok (.iconst 0, 1) := by decide +kernel
theorem dX8_isMeasure_15 : decode cX8_isMeasure 15 = .ok (.ireturn, 1) := by decide +kernel
set_option maxRecDepth 20000 in
theorem ggX8_hasMean_X8_isMeasure : GoodIn wsX8_hasMean wsX8_isMeasure := goodIn_r _ [4] (by decide +kernel) (by decide +kernel)
set_option maxRecDepth 20000 in
theorem gX8_hasMean_X8_isMeasure : GoodIn wsX8_hasMean (va_wsS RX8 95 yX8_isMeasure wsX8_isMeasure) := goodIn_app (goodIn_of _ (by decide +kernel)) ggX8_hasMean_X8_isMeasure
theorem dX8_hasMean_0 : decode cX8_hasMean 0 = .ok (.iload_n 0, 1) := by decide +kernel
theorem dX8_hasMean_1 : decode cX8_hasMean 1 = .ok (.invokestatic 95, 3) := by decide +kernel
theorem dX8_hasMean_4 : decode cX8_hasMean 4 = .ok (.ifCond .eq 17, 3) := by decide +kernel
theorem dX8_hasMean_7 : decode cX8_hasMean 7 = .ok (.iload_n 0, 1) := by decide +kernel
theorem dX8_hasMean_8 : decode cX8_hasMean 8 = .ok (.iconst 4, 1) := by decide +kernel
theorem dX8_hasMean_9 : decode cX8_hasMean 9 = .ok (.if_icmp .eq 12, 3) := by decide +kernel
theorem dX8_hasMean_12 : decode cX8_hasMean 12 = .ok (.iload_n 0, 1) := by decide +kernel
theorem dX8_hasMean_13 : decode cX8_hasMean 13 = .ok (.iconst 5, 1) := by decide +kernel
theorem dX8_hasMean_14 : decode cX8_hasMean 14 = .ok (.if_icmp .eq 7, 3) := by decide +kernel
theorem dX8_hasMean_17 : decode cX8_hasMean 17 = .ok (.iconst 1, 1) := by decide +kernel
theorem dX8_hasMean_18 : decode cX8_hasMean 18 = .ok (.goto 4, 3) := by decide +kernel
theorem dX8_hasMean_21 : decode cX8_hasMean 21 = .ok (.iconst 0, 1) := by decide +kernel
theorem dX8_hasMean_22 : decode cX8_hasMean 22 = .ok (.ireturn, 1) := by decide +kernel
theorem dX8_questionOf_0 : decode cX8_questionOf 0 = .ok (.iload_n 1, 1) := by decide +kernel
theorem dX8_questionOf_1 : decode cX8_questionOf 1 = .ok (.ifCond .lt 18, 3) := by decide +kernel
theorem dX8_questionOf_4 : decode cX8_questionOf 4 = .ok (.iload_n 1, 1) := by decide +kernel
theorem dX8_questionOf_5 : decode cX8_questionOf 5 = .ok (.bipush 8, 2) := by decide +kernel
theorem dX8_questionOf_7 : decode cX8_questionOf 7 = .ok (.if_icmp .ge 12, 3) := by decide +kernel
theorem dX8_questionOf_10 : decode cX8_questionOf 10 = .ok (.aload_n 0, 1) := by decide +kernel
theorem dX8_questionOf_11 : decode cX8_questionOf 11 = .ok (.getfield 11, 3) := by decide +kernel
theorem dX8_questionOf_14 : decode cX8_questionOf 14 = .ok (.iload_n 1, 1) := by decide +kernel
theorem dX8_questionOf_15 : decode cX8_questionOf 15 = .ok (.aaload, 1) := by decide +kernel
theorem dX8_questionOf_16 : decode cX8_questionOf 16 = .ok (.goto 4, 3) := by decide +kernel
theorem dX8_questionOf_19 : decode cX8_questionOf 19 = .ok (.aconst_null, 1) := by decide +kernel
theorem dX8_questionOf_20 : decode cX8_questionOf 20 = .ok (.areturn, 1) := by decide +kernel
set_option maxRecDepth 20000 in
theorem ggX8_placeOf_X8_questionOf : GoodIn wsX8_placeOf wsX8_questionOf := goodIn_r _ [5, 6, 13, 14, 15, 16, 17, 18] (by decide +kernel) (by decide +kernel)
set_option maxRecDepth 20000 in
theorem gX8_placeOf_X8_questionOf : GoodIn wsX8_placeOf (wsV RX8 43 RX8 yX8_questionOf wsX8_questionOf) := goodIn_app (goodIn_of _ (by decide +kernel)) ggX8_placeOf_X8_questionOf
set_option maxRecDepth 20000 in
theorem ggX8_placeOf_X6_rowPlace : GoodIn wsX8_placeOf wsX6_rowPlace := goodIn_r _ [11, 12, 19, 20] (by decide +kernel) (by decide +kernel)
set_option maxRecDepth 20000 in
theorem gX8_placeOf_X6_rowPlace : GoodIn wsX8_placeOf (wsV RX8 180 RX6 yX6_rowPlace wsX6_rowPlace) := goodIn_app (goodIn_of _ (by decide +kernel)) ggX8_placeOf_X6_rowPlace
theorem dX8_placeOf_0 : decode cX8_placeOf 0 = .ok (.aload_n 0, 1) := by decide +kernel
theorem dX8_placeOf_1 : decode cX8_placeOf 1 = .ok (.iload_n 2, 1) := by decide +kernel
theorem dX8_placeOf_2 : decode cX8_placeOf 2 = .ok (.invokevirtual 43, 3) := by decide +kernel
theorem dX8_placeOf_5 : decode cX8_placeOf 5 = .ok (.astore_n 3, 1) := by decide +kernel
theorem dX8_placeOf_6 : decode cX8_placeOf 6 = .ok (.aload_n 3, 1) := by decide +kernel
theorem dX8_placeOf_7 : decode cX8_placeOf 7 = .ok (.ifnonnull 7, 3) := by decide +kernel
theorem dX8_placeOf_10 : decode cX8_placeOf 10 = .ok (.aconst_null, 1) := by decide +kernel
theorem dX8_placeOf_11 : decode cX8_placeOf 11 = .ok (.goto 8, 3) := by decide +kernel
theorem dX8_placeOf_14 : decode cX8_placeOf 14 = .ok (.aload_n 3, 1) := by decide +kernel
theorem dX8_placeOf_15 : decode cX8_placeOf 15 = .ok (.iload_n 1, 1) := by decide +kernel
theorem dX8_placeOf_16 : decode cX8_placeOf 16 = .ok (.invokevirtual 180, 3) := by decide +kernel
theorem dX8_placeOf_19 : decode cX8_placeOf 19 = .ok (.areturn, 1) := by decide +kernel
set_option maxRecDepth 20000 in
theorem ggX8_rowOf_X8_placeOf : GoodIn wsX8_rowOf wsX8_placeOf := goodIn_r _ [5, 6, 7, 8, 4, 9, 10, 11, 12, 13, 14, 15, 16, 23, 24, 25, 26, 27, 28, 29, 30] (by decide +kernel) (by decide +kernel)
set_option maxRecDepth 20000 in
theorem gX8_rowOf_X8_placeOf : GoodIn wsX8_rowOf (wsV RX8 59 RX8 yX8_placeOf wsX8_placeOf) := goodIn_app (goodIn_of _ (by decide +kernel)) ggX8_rowOf_X8_placeOf
set_option maxRecDepth 20000 in
theorem ggX8_rowOf_X7_isTold : GoodIn wsX8_rowOf wsX7_isTold := goodIn_r _ [21, 22, 31, 32, 33] (by decide +kernel) (by decide +kernel)
set_option maxRecDepth 20000 in
theorem gX8_rowOf_X7_isTold : GoodIn wsX8_rowOf (wsV RX8 184 RX7 yX7_isTold wsX7_isTold) := goodIn_app (goodIn_of _ (by decide +kernel)) ggX8_rowOf_X7_isTold
theorem dX8_rowOf_0 : decode cX8_rowOf 0 = .ok (.aload_n 0, 1) := by decide +kernel
theorem dX8_rowOf_1 : decode cX8_rowOf 1 = .ok (.iload_n 1, 1) := by decide +kernel
theorem dX8_rowOf_2 : decode cX8_rowOf 2 = .ok (.iload_n 2, 1) := by decide +kernel
theorem dX8_rowOf_3 : decode cX8_rowOf 3 = .ok (.invokevirtual 59, 3) := by decide +kernel
theorem dX8_rowOf_6 : decode cX8_rowOf 6 = .ok (.astore_n 3, 1) := by decide +kernel
theorem dX8_rowOf_7 : decode cX8_rowOf 7 = .ok (.aload_n 3, 1) := by decide +kernel
theorem dX8_rowOf_8 : decode cX8_rowOf 8 = .ok (.ifnull 10, 3) := by decide +kernel
theorem dX8_rowOf_11 : decode cX8_rowOf 11 = .ok (.aload_n 3, 1) := by decide +kernel
theorem dX8_rowOf_12 : decode cX8_rowOf 12 = .ok (.invokevirtual 184, 3) := by decide +kernel
theorem dX8_rowOf_15 : decode cX8_rowOf 15 = .ok (.ifCond .ne 7, 3) := by decide +kernel
theorem dX8_rowOf_18 : decode cX8_rowOf 18 = .ok (.aconst_null, 1) := by decide +kernel
theorem dX8_rowOf_19 : decode cX8_rowOf 19 = .ok (.goto 4, 3) := by decide +kernel
theorem dX8_rowOf_22 : decode cX8_rowOf 22 = .ok (.aload_n 3, 1) := by decide +kernel
theorem dX8_rowOf_23 : decode cX8_rowOf 23 = .ok (.areturn, 1) := by decide +kernel
set_option maxRecDepth 20000 in
theorem ggX8_countingRow_X8_questionOf : GoodIn wsX8_countingRow wsX8_questionOf := goodIn_r _ [5, 6, 32, 33, 34, 35, 36, 37] (by decide +kernel) (by decide +kernel)
set_option maxRecDepth 20000 in
theorem gX8_countingRow_X8_questionOf : GoodIn wsX8_countingRow (wsV RX8 43 RX8 yX8_questionOf wsX8_questionOf) := goodIn_app (goodIn_of _ (by decide +kernel)) ggX8_countingRow_X8_questionOf
set_option maxRecDepth 20000 in
theorem ggX8_countingRow_X6_goodOnes : GoodIn wsX8_countingRow wsX6_goodOnes := goodIn_r _ [11, 12, 38, 39] (by decide +kernel) (by decide +kernel)
set_option maxRecDepth 20000 in
theorem gX8_countingRow_X6_goodOnes : GoodIn wsX8_countingRow (wsV RX8 86 RX6 yX6_goodOnes wsX6_goodOnes) := goodIn_app (goodIn_of _ (by decide +kernel)) ggX8_countingRow_X6_goodOnes
set_option maxRecDepth 20000 in
theorem ggX8_countingRow_X8_rowOf : GoodIn wsX8_countingRow wsX8_rowOf := goodIn_r _ [16, 17, 18, 19, 4, 20, 1, 2, 3, 5, 6, 21, 22, 23, 10, 24, 25, 26, 27, 28, 29, 30, 31, 32, 33, 34, 35, 36, 37, 38, 39, 40, 41, 42] (by decide +kernel) (by decide +kernel)
set_option maxRecDepth 20000 in
theorem gX8_countingRow_X8_rowOf : GoodIn wsX8_countingRow (wsV RX8 80 RX8 yX8_rowOf wsX8_rowOf) := goodIn_app (goodIn_of _ (by decide +kernel)) ggX8_countingRow_X8_rowOf
theorem dX8_countingRow_0 : decode cX8_countingRow 0 = .ok (.aload_n 0, 1) := by decide +kernel
theorem dX8_countingRow_1 : decode cX8_countingRow 1 = .ok (.iload_n 2, 1) := by decide +kernel
theorem dX8_countingRow_2 : decode cX8_countingRow 2 = .ok (.invokevirtual 43, 3) := by decide +kernel
theorem dX8_countingRow_5 : decode cX8_countingRow 5 = .ok (.astore_n 3, 1) := by decide +kernel
theorem dX8_countingRow_6 : decode cX8_countingRow 6 = .ok (.aload_n 3, 1) := by decide +kernel
theorem dX8_countingRow_7 : decode cX8_countingRow 7 = .ok (.ifnull 10, 3) := by decide +kernel
theorem dX8_countingRow_10 : decode cX8_countingRow 10 = .ok (.aload_n 3, 1) := by decide +kernel
theorem dX8_countingRow_11 : decode cX8_countingRow 11 = .ok (.invokevirtual 86, 3) := by decide +kernel
theorem dX8_countingRow_14 : decode cX8_countingRow 14 = .ok (.ifCond .ne 7, 3) := by decide +kernel
theorem dX8_countingRow_17 : decode cX8_countingRow 17 = .ok (.aconst_null, 1) := by decide +kernel
theorem dX8_countingRow_18 : decode cX8_countingRow 18 = .ok (.goto 9, 3) := by decide +kernel
theorem dX8_countingRow_21 : decode cX8_countingRow 21 = .ok (.aload_n 0, 1) := by decide +kernel
theorem dX8_countingRow_22 : decode cX8_countingRow 22 = .ok (.iload_n 1, 1) := by decide +kernel
theorem dX8_countingRow_23 : decode cX8_countingRow 23 = .ok (.iload_n 2, 1) := by decide +kernel
theorem dX8_countingRow_24 : decode cX8_countingRow 24 = .ok (.invokevirtual 80, 3) := by decide +kernel
theorem dX8_countingRow_27 : decode cX8_countingRow 27 = .ok (.areturn, 1) := by decide +kernel
set_option maxRecDepth 20000 in
theorem ggX8_addUp_X1_become : GoodIn wsX8_addUp wsX1_become := goodIn_r _ [7, 8, 9, 10, 11, 12, 13, 14, 15, 16, 17, 18, 19, 125, 126] (by decide +kernel) (by decide +kernel)
set_option maxRecDepth 20000 in
theorem gX8_addUp_X1_become : GoodIn wsX8_addUp (wsV RX8 134 RX1 yX1_become wsX1_become) := goodIn_app (goodIn_of _ (by decide +kernel)) ggX8_addUp_X1_become
set_option maxRecDepth 20000 in
theorem ggX8_addUp_X8_questionOf : GoodIn wsX8_addUp wsX8_questionOf := goodIn_r _ [23, 24, 119, 120, 121, 122, 123, 124] (by decide +kernel) (by decide +kernel)
set_option maxRecDepth 20000 in
theorem gX8_addUp_X8_questionOf : GoodIn wsX8_addUp (wsV RX8 43 RX8 yX8_questionOf wsX8_questionOf) := goodIn_app (goodIn_of _ (by decide +kernel)) ggX8_addUp_X8_questionOf
set_option maxRecDepth 20000 in
theorem ggX8_addUp_X8_countingRow : GoodIn wsX8_addUp wsX8_countingRow := goodIn_r _ [28, 20, 21, 22, 11, 23, 24, 29, 30, 31, 32, 33, 34, 35, 36, 37, 38, 39, 40, 41, 42, 43, 44, 45, 46, 47, 48, 49, 50, 51, 52, 53, 119, 120, 121, 122, 123, 124, 127, 128, 129, 130, 131] (by decide +kernel) (by decide +kernel)
set_option maxRecDepth 20000 in
theorem gX8_addUp_X8_countingRow : GoodIn wsX8_addUp (wsV RX8 188 RX8 yX8_countingRow wsX8_countingRow) := goodIn_app (goodIn_of _ (by decide +kernel)) ggX8_addUp_X8_countingRow
set_option maxRecDepth 20000 in
theorem ggX8_addUp_X3_put : GoodIn wsX8_addUp wsX3_put := goodIn_r _ [57, 58, 59, 60, 15, 61, 62, 63, 56, 64, 65, 66, 67, 51, 68, 69, 70, 71, 72, 73, 32, 74, 75, 76, 77, 78, 34, 79, 4, 5, 6, 7, 8, 9, 10, 11, 12, 13, 14, 16, 17, 18, 19, 80, 30, 31, 33, 81, 82, 83, 84, 85, 86, 87, 88, 89, 90, 91, 92, 93, 94, 95, 96, 97, 98, 99, 100, 101, 102, 103, 104, 105, 106, 107, 108, 109, 110, 129, 130, 131, 127, 128, 125, 126] (by decide +kernel) (by decide +kernel)
set_option maxRecDepth 20000 in
theorem gX8_addUp_X3_put : GoodIn wsX8_addUp (va_wsS RX8 101 yX3_put wsX3_put) := goodIn_app (goodIn_of _ (by decide +kernel)) ggX8_addUp_X3_put
set_option maxRecDepth 20000 in
theorem ggX8_addUp_X1_add : GoodIn wsX8_addUp wsX1_add := goodIn_r _ [114, 9, 8, 115, 11, 116, 117, 10, 12, 13, 14, 15, 16, 17, 18, 19, 118, 4, 5, 6, 7, 125, 126] (by decide +kernel) (by decide +kernel)
set_option maxRecDepth 20000 in
theorem gX8_addUp_X1_add : GoodIn wsX8_addUp (wsV RX8 191 RX1 yX1_add wsX1_add) := goodIn_app (goodIn_of _ (by decide +kernel)) ggX8_addUp_X1_add
theorem dX8_addUp_0 : decode cX8_addUp 0 = .ok (.iconst 0, 1) := by decide +kernel
theorem dX8_addUp_1 : decode cX8_addUp 1 = .ok (.istore 4, 2) := by decide +kernel
theorem dX8_addUp_3 : decode cX8_addUp 3 = .ok (.aload_n 0, 1) := by decide +kernel
theorem dX8_addUp_4 : decode cX8_addUp 4 = .ok (.getfield 25, 3) := by decide +kernel
theorem dX8_addUp_7 : decode cX8_addUp 7 = .ok (.lconst 0, 1) := by decide +kernel
theorem dX8_addUp_8 : decode cX8_addUp 8 = .ok (.lconst 1, 1) := by decide +kernel
theorem dX8_addUp_9 : decode cX8_addUp 9 = .ok (.invokevirtual 134, 3) := by decide +kernel
theorem dX8_addUp_12 : decode cX8_addUp 12 = .ok (.iconst 0, 1) := by decide +kernel
theorem dX8_addUp_13 : decode cX8_addUp 13 = .ok (.istore 5, 2) := by decide +kernel
theorem dX8_addUp_15 : decode cX8_addUp 15 = .ok (.iload 5, 2) := by decide +kernel
theorem dX8_addUp_17 : decode cX8_addUp 17 = .ok (.bipush 8, 2) := by decide +kernel
theorem dX8_addUp_19 : decode cX8_addUp 19 = .ok (.if_icmp .ge 64, 3) := by decide +kernel
theorem dX8_addUp_22 : decode cX8_addUp 22 = .ok (.aload_n 0, 1) := by decide +kernel
theorem dX8_addUp_23 : decode cX8_addUp 23 = .ok (.iload 5, 2) := by decide +kernel
theorem dX8_addUp_25 : decode cX8_addUp 25 = .ok (.invokevirtual 43, 3) := by decide +kernel
theorem dX8_addUp_28 : decode cX8_addUp 28 = .ok (.astore 6, 2) := by decide +kernel
theorem dX8_addUp_30 : decode cX8_addUp 30 = .ok (.aload_n 0, 1) := by decide +kernel
theorem dX8_addUp_31 : decode cX8_addUp 31 = .ok (.iload_n 1, 1) := by decide +kernel
theorem dX8_addUp_32 : decode cX8_addUp 32 = .ok (.iload 5, 2) := by decide +kernel
theorem dX8_addUp_34 : decode cX8_addUp 34 = .ok (.invokevirtual 188, 3) := by decide +kernel
theorem dX8_addUp_37 : decode cX8_addUp 37 = .ok (.astore 7, 2) := by decide +kernel
theorem dX8_addUp_39 : decode cX8_addUp 39 = .ok (.aload 6, 2) := by decide +kernel
theorem dX8_addUp_41 : decode cX8_addUp 41 = .ok (.ifnull 36, 3) := by decide +kernel
theorem dX8_addUp_44 : decode cX8_addUp 44 = .ok (.aload 7, 2) := by decide +kernel
theorem dX8_addUp_46 : decode cX8_addUp 46 = .ok (.ifnull 31, 3) := by decide +kernel
theorem dX8_addUp_49 : decode cX8_addUp 49 = .ok (.aload_n 0, 1) := by decide +kernel
theorem dX8_addUp_50 : decode cX8_addUp 50 = .ok (.getfield 22, 3) := by decide +kernel
theorem dX8_addUp_53 : decode cX8_addUp 53 = .ok (.aload 6, 2) := by decide +kernel
theorem dX8_addUp_55 : decode cX8_addUp 55 = .ok (.aload 7, 2) := by decide +kernel
theorem dX8_addUp_57 : decode cX8_addUp 57 = .ok (.iload_n 2, 1) := by decide +kernel
theorem dX8_addUp_58 : decode cX8_addUp 58 = .ok (.iload_n 3, 1) := by decide +kernel
theorem dX8_addUp_59 : decode cX8_addUp 59 = .ok (.invokestatic 101, 3) := by decide +kernel
theorem dX8_addUp_62 : decode cX8_addUp 62 = .ok (.aload_n 0, 1) := by decide +kernel
theorem dX8_addUp_63 : decode cX8_addUp 63 = .ok (.getfield 25, 3) := by decide +kernel
theorem dX8_addUp_66 : decode cX8_addUp 66 = .ok (.aload_n 0, 1) := by decide +kernel
theorem dX8_addUp_67 : decode cX8_addUp 67 = .ok (.getfield 22, 3) := by decide +kernel
theorem dX8_addUp_70 : decode cX8_addUp 70 = .ok (.lconst 1, 1) := by decide +kernel
theorem dX8_addUp_71 : decode cX8_addUp 71 = .ok (.invokevirtual 191, 3) := by decide +kernel
theorem dX8_addUp_74 : decode cX8_addUp 74 = .ok (.iinc 4 1, 3) := by decide +kernel
theorem dX8_addUp_77 : decode cX8_addUp 77 = .ok (.iinc 5 1, 3) := by decide +kernel
theorem dX8_addUp_80 : decode cX8_addUp 80 = .ok (.goto (-65), 3) := by decide +kernel
theorem dX8_addUp_83 : decode cX8_addUp 83 = .ok (.iload 4, 2) := by decide +kernel
theorem dX8_addUp_85 : decode cX8_addUp 85 = .ok (.ireturn, 1) := by decide +kernel
set_option maxRecDepth 20000 in
theorem ggX8_meet_X8_isRanker : GoodIn wsX8_meet wsX8_isRanker := goodIn_r _ [8] (by decide +kernel) (by decide +kernel)
set_option maxRecDepth 20000 in
theorem gX8_meet_X8_isRanker : GoodIn wsX8_meet (va_wsS RX8 124 yX8_isRanker wsX8_isRanker) := goodIn_app (goodIn_of _ (by decide +kernel)) ggX8_meet_X8_isRanker
set_option maxRecDepth 20000 in
theorem ggX8_meet_X8_hasMean : GoodIn wsX8_meet wsX8_hasMean := goodIn_r _ [11, 12, 13, 7, 14] (by decide +kernel) (by decide +kernel)
set_option maxRecDepth 20000 in
theorem gX8_meet_X8_hasMean : GoodIn wsX8_meet (va_wsS RX8 127 yX8_hasMean wsX8_hasMean) := goodIn_app (goodIn_of _ (by decide +kernel)) ggX8_meet_X8_hasMean
set_option maxRecDepth 20000 in
theorem ggX8_meet_X8_isDepth : GoodIn wsX8_meet wsX8_isDepth := goodIn_r _ [17] (by decide +kernel) (by decide +kernel)
set_option maxRecDepth 20000 in
theorem gX8_meet_X8_isDepth : GoodIn wsX8_meet (va_wsS RX8 98 yX8_isDepth wsX8_isDepth) := goodIn_app (goodIn_of _ (by decide +kernel)) ggX8_meet_X8_isDepth
set_option maxRecDepth 20000 in
theorem ggX8_meet_X0_clear : GoodIn wsX8_meet wsX0_clear := goodIn_r _ [22, 23, 24, 162, 163, 164] (by decide +kernel) (by decide +kernel)
set_option maxRecDepth 20000 in
theorem gX8_meet_X0_clear : GoodIn wsX8_meet (wsV RX8 195 RX0 yX0_clear wsX0_clear) := goodIn_app (goodIn_of _ (by decide +kernel)) ggX8_meet_X0_clear
set_option maxRecDepth 20000 in
theorem ggX8_meet_X8_questionOf : GoodIn wsX8_meet wsX8_questionOf := goodIn_r _ [28, 29, 156, 157, 158, 159, 160, 161] (by decide +kernel) (by decide +kernel)
set_option maxRecDepth 20000 in
theorem gX8_meet_X8_questionOf : GoodIn wsX8_meet (wsV RX8 43 RX8 yX8_questionOf wsX8_questionOf) := goodIn_app (goodIn_of _ (by decide +kernel)) ggX8_meet_X8_questionOf
set_option maxRecDepth 20000 in
theorem ggX8_meet_X8_countingRow : GoodIn wsX8_meet wsX8_countingRow := goodIn_r _ [33, 25, 26, 27, 7, 28, 29, 34, 35, 36, 37, 38, 39, 40, 41, 42, 43, 44, 45, 46, 47, 48, 49, 50, 51, 52, 53, 54, 55, 56, 57, 58, 156, 157, 158, 159, 160, 161, 165, 166, 167, 168, 169] (by decide +kernel) (by decide +kernel)
set_option maxRecDepth 20000 in
theorem gX8_meet_X8_countingRow : GoodIn wsX8_meet (wsV RX8 188 RX8 yX8_countingRow wsX8_countingRow) := goodIn_app (goodIn_of _ (by decide +kernel)) ggX8_meet_X8_countingRow
set_option maxRecDepth 20000 in
theorem ggX8_meet_X3_put : GoodIn wsX8_meet wsX3_put := goodIn_r _ [62, 63, 64, 65, 66, 67, 68, 69, 61, 70, 71, 72, 73, 56, 74, 75, 76, 77, 78, 79, 37, 80, 81, 82, 83, 84, 39, 85, 86, 87, 88, 89, 90, 91, 92, 7, 93, 94, 95, 96, 97, 98, 99, 100, 35, 36, 38, 101, 102, 103, 104, 105, 106, 107, 108, 109, 110, 111, 112, 113, 114, 115, 116, 117, 118, 119, 120, 121, 122, 123, 124, 125, 126, 127, 128, 129, 130, 167, 168, 169, 165, 166, 170, 171] (by decide +kernel) (by decide +kernel)
set_option maxRecDepth 20000 in
theorem gX8_meet_X3_put : GoodIn wsX8_meet (va_wsS RX8 101 yX3_put wsX3_put) := goodIn_app (goodIn_of _ (by decide +kernel)) ggX8_meet_X3_put
set_option maxRecDepth 20000 in
theorem ggX8_meet_X1_add : GoodIn wsX8_meet wsX1_add := goodIn_r _ [134, 91, 90, 135, 7, 136, 137, 92, 93, 94, 95, 66, 96, 97, 98, 99, 138, 86, 87, 88, 89, 170, 171] (by decide +kernel) (by decide +kernel)
set_option maxRecDepth 20000 in
theorem gX8_meet_X1_add : GoodIn wsX8_meet (wsV RX8 191 RX1 yX1_add wsX1_add) := goodIn_app (goodIn_of _ (by decide +kernel)) ggX8_meet_X1_add
set_option maxRecDepth 20000 in
theorem ggX8_meet_X0_append : GoodIn wsX8_meet wsX0_append := goodIn_r _ [142, 24, 23, 143, 144, 145, 146, 88, 147, 91, 135, 7, 136, 137, 92, 93, 94, 95, 66, 96, 97, 98, 99, 148, 149, 150, 151, 90, 162, 163, 164, 170, 171] (by decide +kernel) (by decide +kernel)
set_option maxRecDepth 20000 in
theorem gX8_meet_X0_append : GoodIn wsX8_meet (wsV RX8 197 RX0 yX0_append wsX0_append) := goodIn_app (goodIn_of _ (by decide +kernel)) ggX8_meet_X0_append
set_option maxRecDepth 20000 in
theorem ggX8_meet_X0_size : GoodIn wsX8_meet wsX0_size := goodIn_r _ [155, 24, 162, 163, 164] (by decide +kernel) (by decide +kernel)
set_option maxRecDepth 20000 in
theorem gX8_meet_X0_size : GoodIn wsX8_meet (wsV RX8 200 RX0 yX0_size wsX0_size) := goodIn_app (goodIn_of _ (by decide +kernel)) ggX8_meet_X0_size
theorem dX8_meet_0 : decode cX8_meet 0 = .ok (.iload_n 1, 1) := by decide +kernel
theorem dX8_meet_1 : decode cX8_meet 1 = .ok (.invokestatic 124, 3) := by decide +kernel
theorem dX8_meet_4 : decode cX8_meet 4 = .ok (.ifCond .eq 10, 3) := by decide +kernel
theorem dX8_meet_7 : decode cX8_meet 7 = .ok (.iload_n 2, 1) := by decide +kernel
theorem dX8_meet_8 : decode cX8_meet 8 = .ok (.invokestatic 124, 3) := by decide +kernel
theorem dX8_meet_11 : decode cX8_meet 11 = .ok (.ifCond .ne 5, 3) := by decide +kernel
theorem dX8_meet_14 : decode cX8_meet 14 = .ok (.iconst (-1), 1) := by decide +kernel
theorem dX8_meet_15 : decode cX8_meet 15 = .ok (.ireturn, 1) := by decide +kernel
theorem dX8_meet_16 : decode cX8_meet 16 = .ok (.iload_n 3, 1) := by decide +kernel
theorem dX8_meet_17 : decode cX8_meet 17 = .ok (.invokestatic 127, 3) := by decide +kernel
theorem dX8_meet_20 : decode cX8_meet 20 = .ok (.ifCond .eq 11, 3) := by decide +kernel
theorem dX8_meet_23 : decode cX8_meet 23 = .ok (.iload 4, 2) := by decide +kernel
theorem dX8_meet_25 : decode cX8_meet 25 = .ok (.invokestatic 98, 3) := by decide +kernel
theorem dX8_meet_28 : decode cX8_meet 28 = .ok (.ifCond .ne 6, 3) := by decide +kernel
theorem dX8_meet_31 : decode cX8_meet 31 = .ok (.bipush (-2), 2) := by decide +kernel
theorem dX8_meet_33 : decode cX8_meet 33 = .ok (.ireturn, 1) := by decide +kernel
theorem dX8_meet_34 : decode cX8_meet 34 = .ok (.iload_n 1, 1) := by decide +kernel
theorem dX8_meet_35 : decode cX8_meet 35 = .ok (.iload_n 2, 1) := by decide +kernel
theorem dX8_meet_36 : decode cX8_meet 36 = .ok (.if_icmp .ne 6, 3) := by decide +kernel
theorem dX8_meet_39 : decode cX8_meet 39 = .ok (.bipush (-3), 2) := by decide +kernel
theorem dX8_meet_41 : decode cX8_meet 41 = .ok (.ireturn, 1) := by decide +kernel
theorem dX8_meet_42 : decode cX8_meet 42 = .ok (.aload_n 0, 1) := by decide +kernel
theorem dX8_meet_43 : decode cX8_meet 43 = .ok (.getfield 31, 3) := by decide +kernel
theorem dX8_meet_46 : decode cX8_meet 46 = .ok (.invokevirtual 195, 3) := by decide +kernel
theorem dX8_meet_49 : decode cX8_meet 49 = .ok (.iconst 0, 1) := by decide +kernel
theorem dX8_meet_50 : decode cX8_meet 50 = .ok (.istore 5, 2) := by decide +kernel
theorem dX8_meet_52 : decode cX8_meet 52 = .ok (.iload 5, 2) := by decide +kernel
theorem dX8_meet_54 : decode cX8_meet 54 = .ok (.bipush 8, 2) := by decide +kernel
theorem dX8_meet_56 : decode cX8_meet 56 = .ok (.if_icmp .ge 103, 3) := by decide +kernel
theorem dX8_meet_59 : decode cX8_meet 59 = .ok (.aload_n 0, 1) := by decide +kernel
theorem dX8_meet_60 : decode cX8_meet 60 = .ok (.iload 5, 2) := by decide +kernel
theorem dX8_meet_62 : decode cX8_meet 62 = .ok (.invokevirtual 43, 3) := by decide +kernel
theorem dX8_meet_65 : decode cX8_meet 65 = .ok (.astore 6, 2) := by decide +kernel
theorem dX8_meet_67 : decode cX8_meet 67 = .ok (.aload_n 0, 1) := by decide +kernel
theorem dX8_meet_68 : decode cX8_meet 68 = .ok (.iload_n 1, 1) := by decide +kernel
theorem dX8_meet_69 : decode cX8_meet 69 = .ok (.iload 5, 2) := by decide +kernel
theorem dX8_meet_71 : decode cX8_meet 71 = .ok (.invokevirtual 188, 3) := by decide +kernel
theorem dX8_meet_74 : decode cX8_meet 74 = .ok (.astore 7, 2) := by decide +kernel
theorem dX8_meet_76 : decode cX8_meet 76 = .ok (.aload_n 0, 1) := by decide +kernel
theorem dX8_meet_77 : decode cX8_meet 77 = .ok (.iload_n 2, 1) := by decide +kernel
theorem dX8_meet_78 : decode cX8_meet 78 = .ok (.iload 5, 2) := by decide +kernel
theorem dX8_meet_80 : decode cX8_meet 80 = .ok (.invokevirtual 188, 3) := by decide +kernel
theorem dX8_meet_83 : decode cX8_meet 83 = .ok (.astore 8, 2) := by decide +kernel
theorem dX8_meet_85 : decode cX8_meet 85 = .ok (.aload 6, 2) := by decide +kernel
theorem dX8_meet_87 : decode cX8_meet 87 = .ok (.ifnull 66, 3) := by decide +kernel
theorem dX8_meet_90 : decode cX8_meet 90 = .ok (.aload 7, 2) := by decide +kernel
theorem dX8_meet_92 : decode cX8_meet 92 = .ok (.ifnull 61, 3) := by decide +kernel
theorem dX8_meet_95 : decode cX8_meet 95 = .ok (.aload 8, 2) := by decide +kernel
theorem dX8_meet_97 : decode cX8_meet 97 = .ok (.ifnull 56, 3) := by decide +kernel
theorem dX8_meet_100 : decode cX8_meet 100 = .ok (.aload_n 0, 1) := by decide +kernel
theorem dX8_meet_101 : decode cX8_meet 101 = .ok (.getfield 25, 3) := by decide +kernel
theorem dX8_meet_104 : decode cX8_meet 104 = .ok (.aload 6, 2) := by decide +kernel
theorem dX8_meet_106 : decode cX8_meet 106 = .ok (.aload 7, 2) := by decide +kernel
theorem dX8_meet_108 : decode cX8_meet 108 = .ok (.iload_n 3, 1) := by decide +kernel
theorem dX8_meet_109 : decode cX8_meet 109 = .ok (.iload 4, 2) := by decide +kernel
theorem dX8_meet_111 : decode cX8_meet 111 = .ok (.invokestatic 101, 3) := by decide +kernel
theorem dX8_meet_114 : decode cX8_meet 114 = .ok (.aload_n 0, 1) := by decide +kernel
theorem dX8_meet_115 : decode cX8_meet 115 = .ok (.getfield 22, 3) := by decide +kernel
theorem dX8_meet_118 : decode cX8_meet 118 = .ok (.aload 6, 2) := by decide +kernel
theorem dX8_meet_120 : decode cX8_meet 120 = .ok (.aload 8, 2) := by decide +kernel
theorem dX8_meet_122 : decode cX8_meet 122 = .ok (.iload_n 3, 1) := by decide +kernel
theorem dX8_meet_123 : decode cX8_meet 123 = .ok (.iload 4, 2) := by decide +kernel
theorem dX8_meet_125 : decode cX8_meet 125 = .ok (.invokestatic 101, 3) := by decide +kernel
theorem dX8_meet_128 : decode cX8_meet 128 = .ok (.aload_n 0, 1) := by decide +kernel
theorem dX8_meet_129 : decode cX8_meet 129 = .ok (.getfield 25, 3) := by decide +kernel
theorem dX8_meet_132 : decode cX8_meet 132 = .ok (.aload_n 0, 1) := by decide +kernel
theorem dX8_meet_133 : decode cX8_meet 133 = .ok (.getfield 22, 3) := by decide +kernel
theorem dX8_meet_136 : decode cX8_meet 136 = .ok (.ldc2_w 114, 3) := by decide +kernel
theorem dX8_meet_139 : decode cX8_meet 139 = .ok (.invokevirtual 191, 3) := by decide +kernel
theorem dX8_meet_142 : decode cX8_meet 142 = .ok (.aload_n 0, 1) := by decide +kernel
theorem dX8_meet_143 : decode cX8_meet 143 = .ok (.getfield 31, 3) := by decide +kernel
theorem dX8_meet_146 : decode cX8_meet 146 = .ok (.aload_n 0, 1) := by decide +kernel
theorem dX8_meet_147 : decode cX8_meet 147 = .ok (.getfield 25, 3) := by decide +kernel
theorem dX8_meet_150 : decode cX8_meet 150 = .ok (.invokevirtual 197, 3) := by decide +kernel
theorem dX8_meet_153 : decode cX8_meet 153 = .ok (.iinc 5 1, 3) := by decide +kernel
theorem dX8_meet_156 : decode cX8_meet 156 = .ok (.goto (-104), 3) := by decide +kernel
theorem dX8_meet_159 : decode cX8_meet 159 = .ok (.aload_n 0, 1) := by decide +kernel
theorem dX8_meet_160 : decode cX8_meet 160 = .ok (.getfield 31, 3) := by decide +kernel
theorem dX8_meet_163 : decode cX8_meet 163 = .ok (.invokevirtual 200, 3) := by decide +kernel
theorem dX8_meet_166 : decode cX8_meet 166 = .ok (.ifCond .ne 8, 3) := by decide +kernel
theorem dX8_meet_169 : decode cX8_meet 169 = .ok (.bipush (-3), 2) := by decide +kernel
theorem dX8_meet_171 : decode cX8_meet 171 = .ok (.goto 10, 3) := by decide +kernel
theorem dX8_meet_174 : decode cX8_meet 174 = .ok (.aload_n 0, 1) := by decide +kernel
theorem dX8_meet_175 : decode cX8_meet 175 = .ok (.getfield 31, 3) := by decide +kernel
theorem dX8_meet_178 : decode cX8_meet 178 = .ok (.invokevirtual 200, 3) := by decide +kernel
theorem dX8_meet_181 : decode cX8_meet 181 = .ok (.ireturn, 1) := by decide +kernel
theorem dX8_commonDivisor_0 : decode cX8_commonDivisor 0 = .ok (.lload_n 0, 1) := by decide +kernel
theorem dX8_commonDivisor_1 : decode cX8_commonDivisor 1 = .ok (.invokestatic 201, 3) := by decide +kernel
theorem dX8_commonDivisor_4 : decode cX8_commonDivisor 4 = .ok (.lstore 4, 2) := by decide +kernel
theorem dX8_commonDivisor_6 : decode cX8_commonDivisor 6 = .ok (.lload_n 2, 1) := by decide +kernel
theorem dX8_commonDivisor_7 : decode cX8_commonDivisor 7 = .ok (.invokestatic 201, 3) := by decide +kernel
theorem dX8_commonDivisor_10 : decode cX8_commonDivisor 10 = .ok (.lstore 6, 2) := by decide +kernel
theorem dX8_commonDivisor_12 : decode cX8_commonDivisor 12 = .ok (.iconst 0, 1) := by decide +kernel
theorem dX8_commonDivisor_13 : decode cX8_commonDivisor 13 = .ok (.istore 8, 2) := by decide +kernel
theorem dX8_commonDivisor_15 : decode cX8_commonDivisor 15 = .ok (.iload 8, 2) := by decide +kernel
theorem dX8_commonDivisor_17 : decode cX8_commonDivisor 17 = .ok (.bipush 100, 2) := by decide +kernel
theorem dX8_commonDivisor_19 : decode cX8_commonDivisor 19 = .ok (.if_icmp .ge 31, 3) := by decide +kernel
theorem dX8_commonDivisor_22 : decode cX8_commonDivisor 22 = .ok (.lload 6, 2) := by decide +kernel
theorem dX8_commonDivisor_24 : decode cX8_commonDivisor 24 = .ok (.lconst 0, 1) := by decide +kernel
theorem dX8_commonDivisor_25 : decode cX8_commonDivisor 25 = .ok (.lcmp, 1) := by decide +kernel
theorem dX8_commonDivisor_26 : decode cX8_commonDivisor 26 = .ok (.ifCond .eq 24, 3) := by decide +kernel
theorem dX8_commonDivisor_29 : decode cX8_commonDivisor 29 = .ok (.lload 4, 2) := by decide +kernel
theorem dX8_commonDivisor_31 : decode cX8_commonDivisor 31 = .ok (.lload 6, 2) := by decide +kernel
theorem dX8_commonDivisor_33 : decode cX8_commonDivisor 33 = .ok (.lrem, 1) := by decide +kernel
theorem dX8_commonDivisor_34 : decode cX8_commonDivisor 34 = .ok (.lstore 9, 2) := by decide +kernel
theorem dX8_commonDivisor_36 : decode cX8_commonDivisor 36 = .ok (.lload 6, 2) := by decide +kernel
theorem dX8_commonDivisor_38 : decode cX8_commonDivisor 38 = .ok (.lstore 4, 2) := by decide +kernel
theorem dX8_commonDivisor_40 : decode cX8_commonDivisor 40 = .ok (.lload 9, 2) := by decide +kernel
theorem dX8_commonDivisor_42 : decode cX8_commonDivisor 42 = .ok (.lstore 6, 2) := by decide +kernel
theorem dX8_commonDivisor_44 : decode cX8_commonDivisor 44 = .ok (.iinc 8 1, 3) := by decide +kernel
theorem dX8_commonDivisor_47 : decode cX8_commonDivisor 47 = .ok (.goto (-32), 3) := by decide +kernel
theorem dX8_commonDivisor_50 : decode cX8_commonDivisor 50 = .ok (.lload 4, 2) := by decide +kernel
theorem dX8_commonDivisor_52 : decode cX8_commonDivisor 52 = .ok (.lconst 1, 1) := by decide +kernel
theorem dX8_commonDivisor_53 : decode cX8_commonDivisor 53 = .ok (.invokestatic 207, 3) := by decide +kernel
theorem dX8_commonDivisor_56 : decode cX8_commonDivisor 56 = .ok (.lreturn, 1) := by decide +kernel
set_option maxRecDepth 20000 in
theorem ggX8_commonMultiple_X8_commonDivisor : GoodIn wsX8_commonMultiple wsX8_commonDivisor := goodIn_r _ [4, 5, 6, 7, 8, 9, 10, 11] (by decide +kernel) (by decide +kernel)
set_option maxRecDepth 20000 in
theorem gX8_commonMultiple_X8_commonDivisor : GoodIn wsX8_commonMultiple (va_wsS RX8 211 yX8_commonDivisor wsX8_commonDivisor) := goodIn_app (goodIn_of _ (by decide +kernel)) ggX8_commonMultiple_X8_commonDivisor
theorem dX8_commonMultiple_0 : decode cX8_commonMultiple 0 = .ok (.lload_n 0, 1) := by decide +kernel
theorem dX8_commonMultiple_1 : decode cX8_commonMultiple 1 = .ok (.lload_n 0, 1) := by decide +kernel
theorem dX8_commonMultiple_2 : decode cX8_commonMultiple 2 = .ok (.lload_n 2, 1) := by decide +kernel
theorem dX8_commonMultiple_3 : decode cX8_commonMultiple 3 = .ok (.invokestatic 211, 3) := by decide +kernel
theorem dX8_commonMultiple_6 : decode cX8_commonMultiple 6 = .ok (.ldiv, 1) := by decide +kernel
theorem dX8_commonMultiple_7 : decode cX8_commonMultiple 7 = .ok (.lload_n 2, 1) := by decide +kernel
theorem dX8_commonMultiple_8 : decode cX8_commonMultiple 8 = .ok (.lmul, 1) := by decide +kernel
theorem dX8_commonMultiple_9 : decode cX8_commonMultiple 9 = .ok (.lreturn, 1) := by decide +kernel
theorem dJ6_numberOfLeadingZeros_0f7a4_0 : decode cJ6_numberOfLeadingZeros_0f7a4 0 = .ok (.iload_n 0, 1) := by decide +kernel
theorem dJ6_numberOfLeadingZeros_0f7a4_1 : decode cJ6_numberOfLeadingZeros_0f7a4 1 = .ok (.ifCond .gt 14, 3) := by decide +kernel
theorem dJ6_numberOfLeadingZeros_0f7a4_4 : decode cJ6_numberOfLeadingZeros_0f7a4 4 = .ok (.iload_n 0, 1) := by decide +kernel
theorem dJ6_numberOfLeadingZeros_0f7a4_5 : decode cJ6_numberOfLeadingZeros_0f7a4 5 = .ok (.ifCond .ne 8, 3) := by decide +kernel
theorem dJ6_numberOfLeadingZeros_0f7a4_8 : decode cJ6_numberOfLeadingZeros_0f7a4 8 = .ok (.bipush 32, 2) := by decide +kernel
theorem dJ6_numberOfLeadingZeros_0f7a4_10 : decode cJ6_numberOfLeadingZeros_0f7a4 10 = .ok (.goto 4, 3) := by decide +kernel
theorem dJ6_numberOfLeadingZeros_0f7a4_13 : decode cJ6_numberOfLeadingZeros_0f7a4 13 = .ok (.iconst 0, 1) := by decide +kernel
theorem dJ6_numberOfLeadingZeros_0f7a4_14 : decode cJ6_numberOfLeadingZeros_0f7a4 14 = .ok (.ireturn, 1) := by decide +kernel
theorem dJ6_numberOfLeadingZeros_0f7a4_15 : decode cJ6_numberOfLeadingZeros_0f7a4 15 = .ok (.bipush 31, 2) := by decide +kernel
theorem dJ6_numberOfLeadingZeros_0f7a4_17 : decode cJ6_numberOfLeadingZeros_0f7a4 17 = .ok (.istore_n 1, 1) := by decide +kernel
theorem dJ6_numberOfLeadingZeros_0f7a4_18 : decode cJ6_numberOfLeadingZeros_0f7a4 18 = .ok (.iload_n 0, 1) := by decide +kernel
theorem dJ6_numberOfLeadingZeros_0f7a4_19 : decode cJ6_numberOfLeadingZeros_0f7a4 19 = .ok (.ldc_w 264, 3) := by decide +kernel
theorem dJ6_numberOfLeadingZeros_0f7a4_22 : decode cJ6_numberOfLeadingZeros_0f7a4 22 = .ok (.if_icmp .lt 11, 3) := by decide +kernel
theorem dJ6_numberOfLeadingZeros_0f7a4_25 : decode cJ6_numberOfLeadingZeros_0f7a4 25 = .ok (.iinc 1 (-16), 3) := by decide +kernel
theorem dJ6_numberOfLeadingZeros_0f7a4_28 : decode cJ6_numberOfLeadingZeros_0f7a4 28 = .ok (.iload_n 0, 1) := by decide +kernel
theorem dJ6_numberOfLeadingZeros_0f7a4_29 : decode cJ6_numberOfLeadingZeros_0f7a4 29 = .ok (.bipush 16, 2) := by decide +kernel
theorem dJ6_numberOfLeadingZeros_0f7a4_31 : decode cJ6_numberOfLeadingZeros_0f7a4 31 = .ok (.iushr, 1) := by decide +kernel
theorem dJ6_numberOfLeadingZeros_0f7a4_32 : decode cJ6_numberOfLeadingZeros_0f7a4 32 = .ok (.istore_n 0, 1) := by decide +kernel
theorem dJ6_numberOfLeadingZeros_0f7a4_33 : decode cJ6_numberOfLeadingZeros_0f7a4 33 = .ok (.iload_n 0, 1) := by decide +kernel
theorem dJ6_numberOfLeadingZeros_0f7a4_34 : decode cJ6_numberOfLeadingZeros_0f7a4 34 = .ok (.sipush 256, 3) := by decide +kernel
theorem dJ6_numberOfLeadingZeros_0f7a4_37 : decode cJ6_numberOfLeadingZeros_0f7a4 37 = .ok (.if_icmp .lt 11, 3) := by decide +kernel
theorem dJ6_numberOfLeadingZeros_0f7a4_40 : decode cJ6_numberOfLeadingZeros_0f7a4 40 = .ok (.iinc 1 (-8), 3) := by decide +kernel
theorem dJ6_numberOfLeadingZeros_0f7a4_43 : decode cJ6_numberOfLeadingZeros_0f7a4 43 = .ok (.iload_n 0, 1) := by decide +kernel
theorem dJ6_numberOfLeadingZeros_0f7a4_44 : decode cJ6_numberOfLeadingZeros_0f7a4 44 = .ok (.bipush 8, 2) := by decide +kernel
theorem dJ6_numberOfLeadingZeros_0f7a4_46 : decode cJ6_numberOfLeadingZeros_0f7a4 46 = .ok (.iushr, 1) := by decide +kernel
theorem dJ6_numberOfLeadingZeros_0f7a4_47 : decode cJ6_numberOfLeadingZeros_0f7a4 47 = .ok (.istore_n 0, 1) := by decide +kernel
theorem dJ6_numberOfLeadingZeros_0f7a4_48 : decode cJ6_numberOfLeadingZeros_0f7a4 48 = .ok (.iload_n 0, 1) := by decide +kernel
theorem dJ6_numberOfLeadingZeros_0f7a4_49 : decode cJ6_numberOfLeadingZeros_0f7a4 49 = .ok (.bipush 16, 2) := by decide +kernel
theorem dJ6_numberOfLeadingZeros_0f7a4_51 : decode cJ6_numberOfLeadingZeros_0f7a4 51 = .ok (.if_icmp .lt 10, 3) := by decide +kernel
theorem dJ6_numberOfLeadingZeros_0f7a4_54 : decode cJ6_numberOfLeadingZeros_0f7a4 54 = .ok (.iinc 1 (-4), 3) := by decide +kernel
theorem dJ6_numberOfLeadingZeros_0f7a4_57 : decode cJ6_numberOfLeadingZeros_0f7a4 57 = .ok (.iload_n 0, 1) := by decide +kernel
theorem dJ6_numberOfLeadingZeros_0f7a4_58 : decode cJ6_numberOfLeadingZeros_0f7a4 58 = .ok (.iconst 4, 1) := by decide +kernel
theorem dJ6_numberOfLeadingZeros_0f7a4_59 : decode cJ6_numberOfLeadingZeros_0f7a4 59 = .ok (.iushr, 1) := by decide +kernel
theorem dJ6_numberOfLeadingZeros_0f7a4_60 : decode cJ6_numberOfLeadingZeros_0f7a4 60 = .ok (.istore_n 0, 1) := by decide +kernel
theorem dJ6_numberOfLeadingZeros_0f7a4_61 : decode cJ6_numberOfLeadingZeros_0f7a4 61 = .ok (.iload_n 0, 1) := by decide +kernel
theorem dJ6_numberOfLeadingZeros_0f7a4_62 : decode cJ6_numberOfLeadingZeros_0f7a4 62 = .ok (.iconst 4, 1) := by decide +kernel
theorem dJ6_numberOfLeadingZeros_0f7a4_63 : decode cJ6_numberOfLeadingZeros_0f7a4 63 = .ok (.if_icmp .lt 10, 3) := by decide +kernel
theorem dJ6_numberOfLeadingZeros_0f7a4_66 : decode cJ6_numberOfLeadingZeros_0f7a4 66 = .ok (.iinc 1 (-2), 3) := by decide +kernel
theorem dJ6_numberOfLeadingZeros_0f7a4_69 : decode cJ6_numberOfLeadingZeros_0f7a4 69 = .ok (.iload_n 0, 1) := by decide +kernel
theorem dJ6_numberOfLeadingZeros_0f7a4_70 : decode cJ6_numberOfLeadingZeros_0f7a4 70 = .ok (.iconst 2, 1) := by decide +kernel
theorem dJ6_numberOfLeadingZeros_0f7a4_71 : decode cJ6_numberOfLeadingZeros_0f7a4 71 = .ok (.iushr, 1) := by decide +kernel
theorem dJ6_numberOfLeadingZeros_0f7a4_72 : decode cJ6_numberOfLeadingZeros_0f7a4 72 = .ok (.istore_n 0, 1) := by decide +kernel
theorem dJ6_numberOfLeadingZeros_0f7a4_73 : decode cJ6_numberOfLeadingZeros_0f7a4 73 = .ok (.iload_n 1, 1) := by decide +kernel
theorem dJ6_numberOfLeadingZeros_0f7a4_74 : decode cJ6_numberOfLeadingZeros_0f7a4 74 = .ok (.iload_n 0, 1) := by decide +kernel
theorem dJ6_numberOfLeadingZeros_0f7a4_75 : decode cJ6_numberOfLeadingZeros_0f7a4 75 = .ok (.iconst 1, 1) := by decide +kernel
theorem dJ6_numberOfLeadingZeros_0f7a4_76 : decode cJ6_numberOfLeadingZeros_0f7a4 76 = .ok (.iushr, 1) := by decide +kernel
theorem dJ6_numberOfLeadingZeros_0f7a4_77 : decode cJ6_numberOfLeadingZeros_0f7a4 77 = .ok (.isub, 1) := by decide +kernel
theorem dJ6_numberOfLeadingZeros_0f7a4_78 : decode cJ6_numberOfLeadingZeros_0f7a4 78 = .ok (.ireturn, 1) := by decide +kernel
theorem dJ13_signum_95d88_0 : decode cJ13_signum_95d88 0 = .ok (.lload_n 0, 1) := by decide +kernel
theorem dJ13_signum_95d88_1 : decode cJ13_signum_95d88 1 = .ok (.bipush 63, 2) := by decide +kernel
theorem dJ13_signum_95d88_3 : decode cJ13_signum_95d88 3 = .ok (.lshr, 1) := by decide +kernel
theorem dJ13_signum_95d88_4 : decode cJ13_signum_95d88 4 = .ok (.lload_n 0, 1) := by decide +kernel
theorem dJ13_signum_95d88_5 : decode cJ13_signum_95d88 5 = .ok (.lneg, 1) := by decide +kernel
theorem dJ13_signum_95d88_6 : decode cJ13_signum_95d88 6 = .ok (.bipush 63, 2) := by decide +kernel
theorem dJ13_signum_95d88_8 : decode cJ13_signum_95d88 8 = .ok (.lushr, 1) := by decide +kernel
theorem dJ13_signum_95d88_9 : decode cJ13_signum_95d88 9 = .ok (.lor, 1) := by decide +kernel
theorem dJ13_signum_95d88_10 : decode cJ13_signum_95d88 10 = .ok (.l2i, 1) := by decide +kernel
theorem dJ13_signum_95d88_11 : decode cJ13_signum_95d88 11 = .ok (.ireturn, 1) := by decide +kernel
theorem dJ9_abs_067f4_0 : decode cJ9_abs_067f4 0 = .ok (.lload_n 0, 1) := by decide +kernel
theorem dJ9_abs_067f4_1 : decode cJ9_abs_067f4 1 = .ok (.lconst 0, 1) := by decide +kernel
theorem dJ9_abs_067f4_2 : decode cJ9_abs_067f4 2 = .ok (.lcmp, 1) := by decide +kernel
theorem dJ9_abs_067f4_3 : decode cJ9_abs_067f4 3 = .ok (.ifCond .ge 8, 3) := by decide +kernel
theorem dJ9_abs_067f4_6 : decode cJ9_abs_067f4 6 = .ok (.lload_n 0, 1) := by decide +kernel
theorem dJ9_abs_067f4_7 : decode cJ9_abs_067f4 7 = .ok (.lneg, 1) := by decide +kernel
theorem dJ9_abs_067f4_8 : decode cJ9_abs_067f4 8 = .ok (.goto 4, 3) := by decide +kernel
theorem dJ9_abs_067f4_11 : decode cJ9_abs_067f4 11 = .ok (.lload_n 0, 1) := by decide +kernel
theorem dJ9_abs_067f4_12 : decode cJ9_abs_067f4 12 = .ok (.lreturn, 1) := by decide +kernel
theorem dJ9_max_f86c9_0 : decode cJ9_max_f86c9 0 = .ok (.lload_n 0, 1) := by decide +kernel
theorem dJ9_max_f86c9_1 : decode cJ9_max_f86c9 1 = .ok (.lload_n 2, 1) := by decide +kernel
theorem dJ9_max_f86c9_2 : decode cJ9_max_f86c9 2 = .ok (.lcmp, 1) := by decide +kernel
theorem dJ9_max_f86c9_3 : decode cJ9_max_f86c9 3 = .ok (.ifCond .lt 7, 3) := by decide +kernel
theorem dJ9_max_f86c9_6 : decode cJ9_max_f86c9 6 = .ok (.lload_n 0, 1) := by decide +kernel
theorem dJ9_max_f86c9_7 : decode cJ9_max_f86c9 7 = .ok (.goto 4, 3) := by decide +kernel
theorem dJ9_max_f86c9_10 : decode cJ9_max_f86c9 10 = .ok (.lload_n 2, 1) := by decide +kernel
theorem dJ9_max_f86c9_11 : decode cJ9_max_f86c9 11 = .ok (.lreturn, 1) := by decide +kernel
theorem dJ9_min_7cf53_0 : decode cJ9_min_7cf53 0 = .ok (.iload_n 0, 1) := by decide +kernel
theorem dJ9_min_7cf53_1 : decode cJ9_min_7cf53 1 = .ok (.iload_n 1, 1) := by decide +kernel
theorem dJ9_min_7cf53_2 : decode cJ9_min_7cf53 2 = .ok (.if_icmp .gt 7, 3) := by decide +kernel
theorem dJ9_min_7cf53_5 : decode cJ9_min_7cf53 5 = .ok (.iload_n 0, 1) := by decide +kernel
theorem dJ9_min_7cf53_6 : decode cJ9_min_7cf53 6 = .ok (.goto 4, 3) := by decide +kernel
theorem dJ9_min_7cf53_9 : decode cJ9_min_7cf53 9 = .ok (.iload_n 1, 1) := by decide +kernel
theorem dJ9_min_7cf53_10 : decode cJ9_min_7cf53 10 = .ok (.ireturn, 1) := by decide +kernel
theorem dJ7_fill_53178_0 : decode cJ7_fill_53178 0 = .ok (.iconst 0, 1) := by decide +kernel
theorem dJ7_fill_53178_1 : decode cJ7_fill_53178 1 = .ok (.istore_n 2, 1) := by decide +kernel
theorem dJ7_fill_53178_2 : decode cJ7_fill_53178 2 = .ok (.aload_n 0, 1) := by decide +kernel
theorem dJ7_fill_53178_3 : decode cJ7_fill_53178 3 = .ok (.arraylength, 1) := by decide +kernel
theorem dJ7_fill_53178_4 : decode cJ7_fill_53178 4 = .ok (.istore_n 3, 1) := by decide +kernel
theorem dJ7_fill_53178_5 : decode cJ7_fill_53178 5 = .ok (.iload_n 2, 1) := by decide +kernel
theorem dJ7_fill_53178_6 : decode cJ7_fill_53178 6 = .ok (.iload_n 3, 1) := by decide +kernel
theorem dJ7_fill_53178_7 : decode cJ7_fill_53178 7 = .ok (.if_icmp .ge 13, 3) := by decide +kernel
theorem dJ7_fill_53178_10 : decode cJ7_fill_53178 10 = .ok (.aload_n 0, 1) := by decide +kernel
theorem dJ7_fill_53178_11 : decode cJ7_fill_53178 11 = .ok (.iload_n 2, 1) := by decide +kernel
theorem dJ7_fill_53178_12 : decode cJ7_fill_53178 12 = .ok (.iload_n 1, 1) := by decide +kernel
theorem dJ7_fill_53178_13 : decode cJ7_fill_53178 13 = .ok (.iastore, 1) := by decide +kernel
theorem dJ7_fill_53178_14 : decode cJ7_fill_53178 14 = .ok (.iinc 2 1, 3) := by decide +kernel
theorem dJ7_fill_53178_17 : decode cJ7_fill_53178 17 = .ok (.goto (-12), 3) := by decide +kernel
theorem dJ7_fill_53178_20 : decode cJ7_fill_53178 20 = .ok (.return_, 1) := by decide +kernel
