theorem dX4_firstNotLaid_23 : decode cX4_firstNotLaid 23 = .ok (.iand, 1) := by decide +kernel
theorem dX4_firstNotLaid_24 : decode cX4_firstNotLaid 24 = .ok (.ifCond .ne 5, 3) := by decide +kernel
theorem dX4_firstNotLaid_27 : decode cX4_firstNotLaid 27 = .ok (.iload_n 3, 1) := by decide +kernel
theorem dX4_firstNotLaid_28 : decode cX4_firstNotLaid 28 = .ok (.ireturn, 1) := by decide +kernel
theorem dX4_firstNotLaid_29 : decode cX4_firstNotLaid 29 = .ok (.iinc 2 1, 3) := by decide +kernel
theorem dX4_firstNotLaid_32 : decode cX4_firstNotLaid 32 = .ok (.goto (-30), 3) := by decide +kernel
theorem dX4_firstNotLaid_35 : decode cX4_firstNotLaid 35 = .ok (.iconst (-1), 1) := by decide +kernel
theorem dX4_firstNotLaid_36 : decode cX4_firstNotLaid 36 = .ok (.ireturn, 1) := by decide +kernel
set_option maxRecDepth 20000 in
theorem ggX4_layNext_X4_firstNotLaid : GoodIn wsX4_layNext wsX4_firstNotLaid := goodIn_r _ [9, 4, 10, 11, 12, 13, 14, 15, 16, 17, 18, 19, 20, 21, 22, 23, 24, 25, 26, 27, 28, 29, 30] (by decide +kernel) (by decide +kernel)
set_option maxRecDepth 20000 in
theorem gX4_layNext_X4_firstNotLaid : GoodIn wsX4_layNext (wsV RX4 61 RX4 yX4_firstNotLaid wsX4_firstNotLaid) := goodIn_app (goodIn_of _ (by decide +kernel)) ggX4_layNext_X4_firstNotLaid
theorem dX4_layNext_0 : decode cX4_layNext 0 = .ok (.aload_n 0, 1) := by decide +kernel
theorem dX4_layNext_1 : decode cX4_layNext 1 = .ok (.aload_n 1, 1) := by decide +kernel
theorem dX4_layNext_2 : decode cX4_layNext 2 = .ok (.invokevirtual 61, 3) := by decide +kernel
theorem dX4_layNext_5 : decode cX4_layNext 5 = .ok (.istore_n 3, 1) := by decide +kernel
theorem dX4_layNext_6 : decode cX4_layNext 6 = .ok (.iload_n 3, 1) := by decide +kernel
theorem dX4_layNext_7 : decode cX4_layNext 7 = .ok (.iconst (-1), 1) := by decide +kernel
theorem dX4_layNext_8 : decode cX4_layNext 8 = .ok (.if_icmp .eq 19, 3) := by decide +kernel
theorem dX4_layNext_11 : decode cX4_layNext 11 = .ok (.aload_n 0, 1) := by decide +kernel
theorem dX4_layNext_12 : decode cX4_layNext 12 = .ok (.getfield 26, 3) := by decide +kernel
theorem dX4_layNext_15 : decode cX4_layNext 15 = .ok (.ifCond .lt 12, 3) := by decide +kernel
theorem dX4_layNext_18 : decode cX4_layNext 18 = .ok (.aload_n 0, 1) := by decide +kernel
theorem dX4_layNext_19 : decode cX4_layNext 19 = .ok (.getfield 26, 3) := by decide +kernel
theorem dX4_layNext_22 : decode cX4_layNext 22 = .ok (.bipush 16, 2) := by decide +kernel
theorem dX4_layNext_24 : decode cX4_layNext 24 = .ok (.if_icmp .lt 4, 3) := by decide +kernel
theorem dX4_layNext_27 : decode cX4_layNext 27 = .ok (.return_, 1) := by decide +kernel
theorem dX4_layNext_28 : decode cX4_layNext 28 = .ok (.aload_n 0, 1) := by decide +kernel
theorem dX4_layNext_29 : decode cX4_layNext 29 = .ok (.getfield 9, 3) := by decide +kernel
theorem dX4_layNext_32 : decode cX4_layNext 32 = .ok (.aload_n 0, 1) := by decide +kernel
theorem dX4_layNext_33 : decode cX4_layNext 33 = .ok (.getfield 26, 3) := by decide +kernel
theorem dX4_layNext_36 : decode cX4_layNext 36 = .ok (.iload_n 3, 1) := by decide +kernel
theorem dX4_layNext_37 : decode cX4_layNext 37 = .ok (.iastore, 1) := by decide +kernel
theorem dX4_layNext_38 : decode cX4_layNext 38 = .ok (.aload_n 0, 1) := by decide +kernel
theorem dX4_layNext_39 : decode cX4_layNext 39 = .ok (.getfield 15, 3) := by decide +kernel
theorem dX4_layNext_42 : decode cX4_layNext 42 = .ok (.aload_n 0, 1) := by decide +kernel
theorem dX4_layNext_43 : decode cX4_layNext 43 = .ok (.getfield 26, 3) := by decide +kernel
theorem dX4_layNext_46 : decode cX4_layNext 46 = .ok (.iload_n 2, 1) := by decide +kernel
theorem dX4_layNext_47 : decode cX4_layNext 47 = .ok (.bastore, 1) := by decide +kernel
theorem dX4_layNext_48 : decode cX4_layNext 48 = .ok (.aload_n 0, 1) := by decide +kernel
theorem dX4_layNext_49 : decode cX4_layNext 49 = .ok (.dup, 1) := by decide +kernel
theorem dX4_layNext_50 : decode cX4_layNext 50 = .ok (.getfield 32, 3) := by decide +kernel
theorem dX4_layNext_53 : decode cX4_layNext 53 = .ok (.iconst 1, 1) := by decide +kernel
theorem dX4_layNext_54 : decode cX4_layNext 54 = .ok (.iload_n 3, 1) := by decide +kernel
theorem dX4_layNext_55 : decode cX4_layNext 55 = .ok (.ishl, 1) := by decide +kernel
theorem dX4_layNext_56 : decode cX4_layNext 56 = .ok (.ior, 1) := by decide +kernel
theorem dX4_layNext_57 : decode cX4_layNext 57 = .ok (.putfield 32, 3) := by decide +kernel
theorem dX4_layNext_60 : decode cX4_layNext 60 = .ok (.aload_n 0, 1) := by decide +kernel
theorem dX4_layNext_61 : decode cX4_layNext 61 = .ok (.dup, 1) := by decide +kernel
theorem dX4_layNext_62 : decode cX4_layNext 62 = .ok (.getfield 26, 3) := by decide +kernel
theorem dX4_layNext_65 : decode cX4_layNext 65 = .ok (.iconst 1, 1) := by decide +kernel
theorem dX4_layNext_66 : decode cX4_layNext 66 = .ok (.iadd, 1) := by decide +kernel
theorem dX4_layNext_67 : decode cX4_layNext 67 = .ok (.putfield 26, 3) := by decide +kernel
theorem dX4_layNext_70 : decode cX4_layNext 70 = .ok (.return_, 1) := by decide +kernel
set_option maxRecDepth 20000 in
theorem ggX5_putLikeness_X7_size : GoodIn wsX5_putLikeness wsX7_size := goodIn_r _ [5, 6, 33, 34, 35] (by decide +kernel) (by decide +kernel)
set_option maxRecDepth 20000 in
theorem gX5_putLikeness_X7_size : GoodIn wsX5_putLikeness (wsV RX5 9 RX7 yX7_size wsX7_size) := goodIn_app (goodIn_of _ (by decide +kernel)) ggX5_putLikeness_X7_size
set_option maxRecDepth 20000 in
theorem ggX5_putLikeness_X7_documentAt : GoodIn wsX5_putLikeness wsX7_documentAt := goodIn_r _ [10, 6, 11, 33, 34, 35] (by decide +kernel) (by decide +kernel)
set_option maxRecDepth 20000 in
theorem gX5_putLikeness_X7_documentAt : GoodIn wsX5_putLikeness (wsV RX5 15 RX7 yX7_documentAt wsX7_documentAt) := goodIn_app (goodIn_of _ (by decide +kernel)) ggX5_putLikeness_X7_documentAt
set_option maxRecDepth 20000 in
theorem ggX5_putLikeness_X7_rankOf : GoodIn wsX5_putLikeness wsX7_rankOf := goodIn_r _ [15, 6, 11, 33, 34, 35] (by decide +kernel) (by decide +kernel)
set_option maxRecDepth 20000 in
theorem gX5_putLikeness_X7_rankOf : GoodIn wsX5_putLikeness (wsV RX5 19 RX7 yX7_rankOf wsX7_rankOf) := goodIn_app (goodIn_of _ (by decide +kernel)) ggX5_putLikeness_X7_rankOf
set_option maxRecDepth 20000 in
theorem ggX5_putLikeness_X1_become : GoodIn wsX5_putLikeness wsX1_become := goodIn_r _ [20, 21, 22, 23, 24, 25, 26, 27, 28, 29, 30, 31, 32, 36, 37] (by decide +kernel) (by decide +kernel)
set_option maxRecDepth 20000 in
theorem gX5_putLikeness_X1_become : GoodIn wsX5_putLikeness (wsV RX5 22 RX1 yX1_become wsX1_become) := goodIn_app (goodIn_of _ (by decide +kernel)) ggX5_putLikeness_X1_become
theorem dX5_putLikeness_0 : decode cX5_putLikeness 0 = .ok (.iconst 0, 1) := by decide +kernel
theorem dX5_putLikeness_1 : decode cX5_putLikeness 1 = .ok (.istore_n 3, 1) := by decide +kernel
theorem dX5_putLikeness_2 : decode cX5_putLikeness 2 = .ok (.iconst 0, 1) := by decide +kernel
theorem dX5_putLikeness_3 : decode cX5_putLikeness 3 = .ok (.istore 4, 2) := by decide +kernel
theorem dX5_putLikeness_5 : decode cX5_putLikeness 5 = .ok (.iconst 2, 1) := by decide +kernel
theorem dX5_putLikeness_6 : decode cX5_putLikeness 6 = .ok (.istore 5, 2) := by decide +kernel
theorem dX5_putLikeness_8 : decode cX5_putLikeness 8 = .ok (.iload 5, 2) := by decide +kernel
theorem dX5_putLikeness_10 : decode cX5_putLikeness 10 = .ok (.aload_n 1, 1) := by decide +kernel
theorem dX5_putLikeness_11 : decode cX5_putLikeness 11 = .ok (.invokevirtual 9, 3) := by decide +kernel
theorem dX5_putLikeness_14 : decode cX5_putLikeness 14 = .ok (.if_icmp .gt 79, 3) := by decide +kernel
theorem dX5_putLikeness_17 : decode cX5_putLikeness 17 = .ok (.aload_n 2, 1) := by decide +kernel
theorem dX5_putLikeness_18 : decode cX5_putLikeness 18 = .ok (.aload_n 1, 1) := by decide +kernel
theorem dX5_putLikeness_19 : decode cX5_putLikeness 19 = .ok (.iload 5, 2) := by decide +kernel
theorem dX5_putLikeness_21 : decode cX5_putLikeness 21 = .ok (.invokevirtual 15, 3) := by decide +kernel
theorem dX5_putLikeness_24 : decode cX5_putLikeness 24 = .ok (.invokevirtual 19, 3) := by decide +kernel
theorem dX5_putLikeness_27 : decode cX5_putLikeness 27 = .ok (.istore 6, 2) := by decide +kernel
theorem dX5_putLikeness_29 : decode cX5_putLikeness 29 = .ok (.iconst 1, 1) := by decide +kernel
theorem dX5_putLikeness_30 : decode cX5_putLikeness 30 = .ok (.istore 7, 2) := by decide +kernel
theorem dX5_putLikeness_32 : decode cX5_putLikeness 32 = .ok (.iload 7, 2) := by decide +kernel
theorem dX5_putLikeness_34 : decode cX5_putLikeness 34 = .ok (.iload 5, 2) := by decide +kernel
theorem dX5_putLikeness_36 : decode cX5_putLikeness 36 = .ok (.if_icmp .ge 51, 3) := by decide +kernel
theorem dX5_putLikeness_39 : decode cX5_putLikeness 39 = .ok (.iload 6, 2) := by decide +kernel
theorem dX5_putLikeness_41 : decode cX5_putLikeness 41 = .ok (.ifCond .le 46, 3) := by decide +kernel
theorem dX5_putLikeness_44 : decode cX5_putLikeness 44 = .ok (.aload_n 2, 1) := by decide +kernel
theorem dX5_putLikeness_45 : decode cX5_putLikeness 45 = .ok (.aload_n 1, 1) := by decide +kernel
theorem dX5_putLikeness_46 : decode cX5_putLikeness 46 = .ok (.iload 7, 2) := by decide +kernel
theorem dX5_putLikeness_48 : decode cX5_putLikeness 48 = .ok (.invokevirtual 15, 3) := by decide +kernel
theorem dX5_putLikeness_51 : decode cX5_putLikeness 51 = .ok (.invokevirtual 19, 3) := by decide +kernel
theorem dX5_putLikeness_54 : decode cX5_putLikeness 54 = .ok (.istore 8, 2) := by decide +kernel
theorem dX5_putLikeness_56 : decode cX5_putLikeness 56 = .ok (.iload 8, 2) := by decide +kernel
theorem dX5_putLikeness_58 : decode cX5_putLikeness 58 = .ok (.ifCond .le 23, 3) := by decide +kernel
theorem dX5_putLikeness_61 : decode cX5_putLikeness 61 = .ok (.iinc 3 1, 3) := by decide +kernel
theorem dX5_putLikeness_64 : decode cX5_putLikeness 64 = .ok (.iload 4, 2) := by decide +kernel
theorem dX5_putLikeness_66 : decode cX5_putLikeness 66 = .ok (.iload 8, 2) := by decide +kernel
theorem dX5_putLikeness_68 : decode cX5_putLikeness 68 = .ok (.iload 6, 2) := by decide +kernel
theorem dX5_putLikeness_70 : decode cX5_putLikeness 70 = .ok (.if_icmp .ge 7, 3) := by decide +kernel
theorem dX5_putLikeness_73 : decode cX5_putLikeness 73 = .ok (.iconst 1, 1) := by decide +kernel
theorem dX5_putLikeness_74 : decode cX5_putLikeness 74 = .ok (.goto 4, 3) := by decide +kernel
theorem dX5_putLikeness_77 : decode cX5_putLikeness 77 = .ok (.iconst (-1), 1) := by decide +kernel
theorem dX5_putLikeness_78 : decode cX5_putLikeness 78 = .ok (.iadd, 1) := by decide +kernel
theorem dX5_putLikeness_79 : decode cX5_putLikeness 79 = .ok (.istore 4, 2) := by decide +kernel
theorem dX5_putLikeness_81 : decode cX5_putLikeness 81 = .ok (.iinc 7 1, 3) := by decide +kernel
theorem dX5_putLikeness_84 : decode cX5_putLikeness 84 = .ok (.goto (-52), 3) := by decide +kernel
theorem dX5_putLikeness_87 : decode cX5_putLikeness 87 = .ok (.iinc 5 1, 3) := by decide +kernel
theorem dX5_putLikeness_90 : decode cX5_putLikeness 90 = .ok (.goto (-82), 3) := by decide +kernel
theorem dX5_putLikeness_93 : decode cX5_putLikeness 93 = .ok (.aload_n 0, 1) := by decide +kernel
theorem dX5_putLikeness_94 : decode cX5_putLikeness 94 = .ok (.iload 4, 2) := by decide +kernel
theorem dX5_putLikeness_96 : decode cX5_putLikeness 96 = .ok (.i2l, 1) := by decide +kernel
theorem dX5_putLikeness_97 : decode cX5_putLikeness 97 = .ok (.iload_n 3, 1) := by decide +kernel
theorem dX5_putLikeness_98 : decode cX5_putLikeness 98 = .ok (.i2l, 1) := by decide +kernel
theorem dX5_putLikeness_99 : decode cX5_putLikeness 99 = .ok (.invokevirtual 22, 3) := by decide +kernel
theorem dX5_putLikeness_102 : decode cX5_putLikeness 102 = .ok (.iload_n 3, 1) := by decide +kernel
theorem dX5_putLikeness_103 : decode cX5_putLikeness 103 = .ok (.ireturn, 1) := by decide +kernel
set_option maxRecDepth 20000 in
theorem ggX5_putOverlap_X5_sharedAmong : GoodIn wsX5_putOverlap wsX5_sharedAmong := goodIn_r _ [5, 6, 7, 8, 9, 10, 11, 12, 13, 14, 15, 16, 17, 18, 19, 20, 21, 22, 23, 24, 42, 43, 44] (by decide +kernel) (by decide +kernel)
set_option maxRecDepth 20000 in
theorem gX5_putOverlap_X5_sharedAmong : GoodIn wsX5_putOverlap (va_wsS RX5 28 yX5_sharedAmong wsX5_sharedAmong) := goodIn_app (goodIn_of _ (by decide +kernel)) ggX5_putOverlap_X5_sharedAmong
set_option maxRecDepth 20000 in
theorem ggX5_putOverlap_X1_become : GoodIn wsX5_putOverlap wsX1_become := goodIn_r _ [29, 30, 31, 32, 33, 34, 35, 36, 37, 38, 39, 40, 41, 45, 46] (by decide +kernel) (by decide +kernel)
set_option maxRecDepth 20000 in
theorem gX5_putOverlap_X1_become : GoodIn wsX5_putOverlap (wsV RX5 22 RX1 yX1_become wsX1_become) := goodIn_app (goodIn_of _ (by decide +kernel)) ggX5_putOverlap_X1_become
theorem dX5_putOverlap_0 : decode cX5_putOverlap 0 = .ok (.lconst 0, 1) := by decide +kernel
theorem dX5_putOverlap_1 : decode cX5_putOverlap 1 = .ok (.lstore 4, 2) := by decide +kernel
theorem dX5_putOverlap_3 : decode cX5_putOverlap 3 = .ok (.iconst 1, 1) := by decide +kernel
theorem dX5_putOverlap_4 : decode cX5_putOverlap 4 = .ok (.istore 6, 2) := by decide +kernel
theorem dX5_putOverlap_6 : decode cX5_putOverlap 6 = .ok (.iload 6, 2) := by decide +kernel
theorem dX5_putOverlap_8 : decode cX5_putOverlap 8 = .ok (.iload_n 3, 1) := by decide +kernel
theorem dX5_putOverlap_9 : decode cX5_putOverlap 9 = .ok (.if_icmp .gt 30, 3) := by decide +kernel
theorem dX5_putOverlap_12 : decode cX5_putOverlap 12 = .ok (.lload 4, 2) := by decide +kernel
theorem dX5_putOverlap_14 : decode cX5_putOverlap 14 = .ok (.aload_n 1, 1) := by decide +kernel
theorem dX5_putOverlap_15 : decode cX5_putOverlap 15 = .ok (.aload_n 2, 1) := by decide +kernel
theorem dX5_putOverlap_16 : decode cX5_putOverlap 16 = .ok (.iload 6, 2) := by decide +kernel
theorem dX5_putOverlap_18 : decode cX5_putOverlap 18 = .ok (.invokestatic 28, 3) := by decide +kernel
theorem dX5_putOverlap_21 : decode cX5_putOverlap 21 = .ok (.i2l, 1) := by decide +kernel
theorem dX5_putOverlap_22 : decode cX5_putOverlap 22 = .ok (.ldc2_w 34, 3) := by decide +kernel
theorem dX5_putOverlap_25 : decode cX5_putOverlap 25 = .ok (.iload 6, 2) := by decide +kernel
theorem dX5_putOverlap_27 : decode cX5_putOverlap 27 = .ok (.i2l, 1) := by decide +kernel
theorem dX5_putOverlap_28 : decode cX5_putOverlap 28 = .ok (.ldiv, 1) := by decide +kernel
theorem dX5_putOverlap_29 : decode cX5_putOverlap 29 = .ok (.lmul, 1) := by decide +kernel
theorem dX5_putOverlap_30 : decode cX5_putOverlap 30 = .ok (.ladd, 1) := by decide +kernel
theorem dX5_putOverlap_31 : decode cX5_putOverlap 31 = .ok (.lstore 4, 2) := by decide +kernel
theorem dX5_putOverlap_33 : decode cX5_putOverlap 33 = .ok (.iinc 6 1, 3) := by decide +kernel
theorem dX5_putOverlap_36 : decode cX5_putOverlap 36 = .ok (.goto (-30), 3) := by decide +kernel
theorem dX5_putOverlap_39 : decode cX5_putOverlap 39 = .ok (.aload_n 0, 1) := by decide +kernel
theorem dX5_putOverlap_40 : decode cX5_putOverlap 40 = .ok (.lload 4, 2) := by decide +kernel
theorem dX5_putOverlap_42 : decode cX5_putOverlap 42 = .ok (.ldc2_w 34, 3) := by decide +kernel
theorem dX5_putOverlap_45 : decode cX5_putOverlap 45 = .ok (.iload_n 3, 1) := by decide +kernel
theorem dX5_putOverlap_46 : decode cX5_putOverlap 46 = .ok (.i2l, 1) := by decide +kernel
theorem dX5_putOverlap_47 : decode cX5_putOverlap 47 = .ok (.lmul, 1) := by decide +kernel
theorem dX5_putOverlap_48 : decode cX5_putOverlap 48 = .ok (.invokevirtual 22, 3) := by decide +kernel
theorem dX5_putOverlap_51 : decode cX5_putOverlap 51 = .ok (.return_, 1) := by decide +kernel
set_option maxRecDepth 20000 in
theorem ggX5_sharedAmong_X7_size : GoodIn wsX5_sharedAmong wsX7_size := goodIn_r _ [5, 6, 20, 21, 22] (by decide +kernel) (by decide +kernel)
set_option maxRecDepth 20000 in
theorem gX5_sharedAmong_X7_size : GoodIn wsX5_sharedAmong (wsV RX5 9 RX7 yX7_size wsX7_size) := goodIn_app (goodIn_of _ (by decide +kernel)) ggX5_sharedAmong_X7_size
set_option maxRecDepth 20000 in
theorem ggX5_sharedAmong_X7_documentAt : GoodIn wsX5_sharedAmong wsX7_documentAt := goodIn_r _ [10, 6, 11, 20, 21, 22] (by decide +kernel) (by decide +kernel)
set_option maxRecDepth 20000 in
theorem gX5_sharedAmong_X7_documentAt : GoodIn wsX5_sharedAmong (wsV RX5 15 RX7 yX7_documentAt wsX7_documentAt) := goodIn_app (goodIn_of _ (by decide +kernel)) ggX5_sharedAmong_X7_documentAt
set_option maxRecDepth 20000 in
theorem ggX5_sharedAmong_X7_hasAmongFirst : GoodIn wsX5_sharedAmong wsX7_hasAmongFirst := goodIn_r _ [15, 16, 17, 18, 4, 19, 6, 11, 20, 21, 22] (by decide +kernel) (by decide +kernel)
set_option maxRecDepth 20000 in
theorem gX5_sharedAmong_X7_hasAmongFirst : GoodIn wsX5_sharedAmong (wsV RX5 36 RX7 yX7_hasAmongFirst wsX7_hasAmongFirst) := goodIn_app (goodIn_of _ (by decide +kernel)) ggX5_sharedAmong_X7_hasAmongFirst
theorem dX5_sharedAmong_0 : decode cX5_sharedAmong 0 = .ok (.iconst 0, 1) := by decide +kernel
theorem dX5_sharedAmong_1 : decode cX5_sharedAmong 1 = .ok (.istore_n 3, 1) := by decide +kernel
theorem dX5_sharedAmong_2 : decode cX5_sharedAmong 2 = .ok (.iconst 1, 1) := by decide +kernel
theorem dX5_sharedAmong_3 : decode cX5_sharedAmong 3 = .ok (.istore 4, 2) := by decide +kernel
theorem dX5_sharedAmong_5 : decode cX5_sharedAmong 5 = .ok (.iload 4, 2) := by decide +kernel
theorem dX5_sharedAmong_7 : decode cX5_sharedAmong 7 = .ok (.iload_n 2, 1) := by decide +kernel
theorem dX5_sharedAmong_8 : decode cX5_sharedAmong 8 = .ok (.if_icmp .gt 35, 3) := by decide +kernel
theorem dX5_sharedAmong_11 : decode cX5_sharedAmong 11 = .ok (.iload 4, 2) := by decide +kernel
theorem dX5_sharedAmong_13 : decode cX5_sharedAmong 13 = .ok (.aload_n 0, 1) := by decide +kernel
theorem dX5_sharedAmong_14 : decode cX5_sharedAmong 14 = .ok (.invokevirtual 9, 3) := by decide +kernel
theorem dX5_sharedAmong_17 : decode cX5_sharedAmong 17 = .ok (.if_icmp .gt 26, 3) := by decide +kernel
theorem dX5_sharedAmong_20 : decode cX5_sharedAmong 20 = .ok (.aload_n 1, 1) := by decide +kernel
theorem dX5_sharedAmong_21 : decode cX5_sharedAmong 21 = .ok (.iload_n 2, 1) := by decide +kernel
theorem dX5_sharedAmong_22 : decode cX5_sharedAmong 22 = .ok (.aload_n 0, 1) := by decide +kernel
theorem dX5_sharedAmong_23 : decode cX5_sharedAmong 23 = .ok (.iload 4, 2) := by decide +kernel
theorem dX5_sharedAmong_25 : decode cX5_sharedAmong 25 = .ok (.invokevirtual 15, 3) := by decide +kernel
theorem dX5_sharedAmong_28 : decode cX5_sharedAmong 28 = .ok (.invokevirtual 36, 3) := by decide +kernel
theorem dX5_sharedAmong_31 : decode cX5_sharedAmong 31 = .ok (.ifCond .eq 6, 3) := by decide +kernel
theorem dX5_sharedAmong_34 : decode cX5_sharedAmong 34 = .ok (.iinc 3 1, 3) := by decide +kernel
theorem dX5_sharedAmong_37 : decode cX5_sharedAmong 37 = .ok (.iinc 4 1, 3) := by decide +kernel
theorem dX5_sharedAmong_40 : decode cX5_sharedAmong 40 = .ok (.goto (-35), 3) := by decide +kernel
theorem dX5_sharedAmong_43 : decode cX5_sharedAmong 43 = .ok (.iload_n 3, 1) := by decide +kernel
theorem dX5_sharedAmong_44 : decode cX5_sharedAmong 44 = .ok (.ireturn, 1) := by decide +kernel
set_option maxRecDepth 20000 in
theorem ggX6_init_J7_fill_53178 : GoodIn wsX6_init wsJ7_fill_53178 := goodIn_r _ [13] (by decide +kernel) (by decide +kernel)
set_option maxRecDepth 20000 in
theorem gX6_init_J7_fill_53178 : GoodIn wsX6_init (va_wsS RX6 21 yJ7_fill_53178 wsJ7_fill_53178) := goodIn_app (goodIn_of _ (by decide +kernel)) ggX6_init_J7_fill_53178
set_option maxRecDepth 20000 in
theorem ggX6_init_X7_init : GoodIn wsX6_init wsX7_init := goodIn_r _ [15, 16, 2, 3, 4, 17, 20, 21, 22] (by decide +kernel) (by decide +kernel)
set_option maxRecDepth 20000 in
theorem gX6_init_X7_init_n27 : GoodIn wsX6_init (wsX7_init) := ggX6_init_X7_init
theorem dX6_init_0 : decode cX6_init 0 = .ok (.aload_n 0, 1) := by decide +kernel
theorem dX6_init_1 : decode cX6_init 1 = .ok (.invokespecial 3, 3) := by decide +kernel
theorem dX6_init_4 : decode cX6_init 4 = .ok (.aload_n 0, 1) := by decide +kernel
theorem dX6_init_5 : decode cX6_init 5 = .ok (.bipush 24, 2) := by decide +kernel
theorem dX6_init_7 : decode cX6_init 7 = .ok (.newarray .int, 2) := by decide +kernel
theorem dX6_init_9 : decode cX6_init 9 = .ok (.putfield 9, 3) := by decide +kernel
theorem dX6_init_12 : decode cX6_init 12 = .ok (.aload_n 0, 1) := by decide +kernel
theorem dX6_init_13 : decode cX6_init 13 = .ok (.iconst 4, 1) := by decide +kernel
theorem dX6_init_14 : decode cX6_init 14 = .ok (.anewarray 15, 3) := by decide +kernel
theorem dX6_init_17 : decode cX6_init 17 = .ok (.putfield 17, 3) := by decide +kernel
theorem dX6_init_20 : decode cX6_init 20 = .ok (.aload_n 0, 1) := by decide +kernel
theorem dX6_init_21 : decode cX6_init 21 = .ok (.getfield 9, 3) := by decide +kernel
theorem dX6_init_24 : decode cX6_init 24 = .ok (.iconst (-1), 1) := by decide +kernel
theorem dX6_init_25 : decode cX6_init 25 = .ok (.invokestatic 21, 3) := by decide +kernel
theorem dX6_init_28 : decode cX6_init 28 = .ok (.iconst 0, 1) := by decide +kernel
theorem dX6_init_29 : decode cX6_init 29 = .ok (.istore_n 1, 1) := by decide +kernel
theorem dX6_init_30 : decode cX6_init 30 = .ok (.iload_n 1, 1) := by decide +kernel
theorem dX6_init_31 : decode cX6_init 31 = .ok (.iconst 4, 1) := by decide +kernel
theorem dX6_init_32 : decode cX6_init 32 = .ok (.if_icmp .ge 22, 3) := by decide +kernel
theorem dX6_init_35 : decode cX6_init 35 = .ok (.aload_n 0, 1) := by decide +kernel
theorem dX6_init_36 : decode cX6_init 36 = .ok (.getfield 17, 3) := by decide +kernel
theorem dX6_init_39 : decode cX6_init 39 = .ok (.iload_n 1, 1) := by decide +kernel
theorem dX6_init_40 : decode cX6_init 40 = .ok (.new 15, 3) := by decide +kernel
theorem dX6_init_43 : decode cX6_init 43 = .ok (.dup, 1) := by decide +kernel
theorem dX6_init_44 : decode cX6_init 44 = .ok (.invokespecial 27, 3) := by decide +kernel
theorem dX6_init_47 : decode cX6_init 47 = .ok (.aastore, 1) := by decide +kernel
theorem dX6_init_48 : decode cX6_init 48 = .ok (.iinc 1 1, 3) := by decide +kernel
theorem dX6_init_51 : decode cX6_init 51 = .ok (.goto (-21), 3) := by decide +kernel
theorem dX6_init_54 : decode cX6_init 54 = .ok (.return_, 1) := by decide +kernel
theorem dX6_rowPlace_0 : decode cX6_rowPlace 0 = .ok (.iload_n 1, 1) := by decide +kernel
theorem dX6_rowPlace_1 : decode cX6_rowPlace 1 = .ok (.ifCond .lt 17, 3) := by decide +kernel
theorem dX6_rowPlace_4 : decode cX6_rowPlace 4 = .ok (.iload_n 1, 1) := by decide +kernel
theorem dX6_rowPlace_5 : decode cX6_rowPlace 5 = .ok (.iconst 4, 1) := by decide +kernel
theorem dX6_rowPlace_6 : decode cX6_rowPlace 6 = .ok (.if_icmp .ge 12, 3) := by decide +kernel
theorem dX6_rowPlace_9 : decode cX6_rowPlace 9 = .ok (.aload_n 0, 1) := by decide +kernel
theorem dX6_rowPlace_10 : decode cX6_rowPlace 10 = .ok (.getfield 17, 3) := by decide +kernel
theorem dX6_rowPlace_13 : decode cX6_rowPlace 13 = .ok (.iload_n 1, 1) := by decide +kernel
theorem dX6_rowPlace_14 : decode cX6_rowPlace 14 = .ok (.aaload, 1) := by decide +kernel
theorem dX6_rowPlace_15 : decode cX6_rowPlace 15 = .ok (.goto 4, 3) := by decide +kernel
theorem dX6_rowPlace_18 : decode cX6_rowPlace 18 = .ok (.aconst_null, 1) := by decide +kernel
theorem dX6_rowPlace_19 : decode cX6_rowPlace 19 = .ok (.areturn, 1) := by decide +kernel
theorem dX6_gradeOf_0 : decode cX6_gradeOf 0 = .ok (.iload_n 1, 1) := by decide +kernel
theorem dX6_gradeOf_1 : decode cX6_gradeOf 1 = .ok (.ifCond .lt 18, 3) := by decide +kernel
theorem dX6_gradeOf_4 : decode cX6_gradeOf 4 = .ok (.iload_n 1, 1) := by decide +kernel
theorem dX6_gradeOf_5 : decode cX6_gradeOf 5 = .ok (.bipush 24, 2) := by decide +kernel
theorem dX6_gradeOf_7 : decode cX6_gradeOf 7 = .ok (.if_icmp .ge 12, 3) := by decide +kernel
theorem dX6_gradeOf_10 : decode cX6_gradeOf 10 = .ok (.aload_n 0, 1) := by decide +kernel
theorem dX6_gradeOf_11 : decode cX6_gradeOf 11 = .ok (.getfield 9, 3) := by decide +kernel
theorem dX6_gradeOf_14 : decode cX6_gradeOf 14 = .ok (.iload_n 1, 1) := by decide +kernel
theorem dX6_gradeOf_15 : decode cX6_gradeOf 15 = .ok (.iaload, 1) := by decide +kernel
theorem dX6_gradeOf_16 : decode cX6_gradeOf 16 = .ok (.goto 4, 3) := by decide +kernel
theorem dX6_gradeOf_19 : decode cX6_gradeOf 19 = .ok (.iconst (-1), 1) := by decide +kernel
theorem dX6_gradeOf_20 : decode cX6_gradeOf 20 = .ok (.ireturn, 1) := by decide +kernel
set_option maxRecDepth 20000 in
theorem ggX6_isGood_X6_gradeOf : GoodIn wsX6_isGood wsX6_gradeOf := goodIn_r _ [5, 6, 7, 8] (by decide +kernel) (by decide +kernel)
set_option maxRecDepth 20000 in
theorem gX6_isGood_X6_gradeOf : GoodIn wsX6_isGood (wsV RX6 28 RX6 yX6_gradeOf wsX6_gradeOf) := goodIn_app (goodIn_of _ (by decide +kernel)) ggX6_isGood_X6_gradeOf
theorem dX6_isGood_0 : decode cX6_isGood 0 = .ok (.aload_n 0, 1) := by decide +kernel
theorem dX6_isGood_1 : decode cX6_isGood 1 = .ok (.iload_n 1, 1) := by decide +kernel
theorem dX6_isGood_2 : decode cX6_isGood 2 = .ok (.invokevirtual 28, 3) := by decide +kernel
theorem dX6_isGood_5 : decode cX6_isGood 5 = .ok (.iconst 1, 1) := by decide +kernel
theorem dX6_isGood_6 : decode cX6_isGood 6 = .ok (.if_icmp .lt 7, 3) := by decide +kernel
theorem dX6_isGood_9 : decode cX6_isGood 9 = .ok (.iconst 1, 1) := by decide +kernel
theorem dX6_isGood_10 : decode cX6_isGood 10 = .ok (.goto 4, 3) := by decide +kernel
theorem dX6_isGood_13 : decode cX6_isGood 13 = .ok (.iconst 0, 1) := by decide +kernel
theorem dX6_isGood_14 : decode cX6_isGood 14 = .ok (.ireturn, 1) := by decide +kernel
theorem dX6_judge_0 : decode cX6_judge 0 = .ok (.iload_n 1, 1) := by decide +kernel
theorem dX6_judge_1 : decode cX6_judge 1 = .ok (.ifCond .lt 16, 3) := by decide +kernel
theorem dX6_judge_4 : decode cX6_judge 4 = .ok (.iload_n 1, 1) := by decide +kernel
theorem dX6_judge_5 : decode cX6_judge 5 = .ok (.bipush 24, 2) := by decide +kernel
theorem dX6_judge_7 : decode cX6_judge 7 = .ok (.if_icmp .ge 10, 3) := by decide +kernel
theorem dX6_judge_10 : decode cX6_judge 10 = .ok (.aload_n 0, 1) := by decide +kernel
theorem dX6_judge_11 : decode cX6_judge 11 = .ok (.getfield 9, 3) := by decide +kernel
theorem dX6_judge_14 : decode cX6_judge 14 = .ok (.iload_n 1, 1) := by decide +kernel
theorem dX6_judge_15 : decode cX6_judge 15 = .ok (.iload_n 2, 1) := by decide +kernel
theorem dX6_judge_16 : decode cX6_judge 16 = .ok (.iastore, 1) := by decide +kernel
theorem dX6_judge_17 : decode cX6_judge 17 = .ok (.return_, 1) := by decide +kernel
theorem dX6_gradedWith_0 : decode cX6_gradedWith 0 = .ok (.iconst 0, 1) := by decide +kernel
theorem dX6_gradedWith_1 : decode cX6_gradedWith 1 = .ok (.istore_n 2, 1) := by decide +kernel
theorem dX6_gradedWith_2 : decode cX6_gradedWith 2 = .ok (.iconst 0, 1) := by decide +kernel
theorem dX6_gradedWith_3 : decode cX6_gradedWith 3 = .ok (.istore_n 3, 1) := by decide +kernel
theorem dX6_gradedWith_4 : decode cX6_gradedWith 4 = .ok (.iload_n 3, 1) := by decide +kernel
theorem dX6_gradedWith_5 : decode cX6_gradedWith 5 = .ok (.bipush 24, 2) := by decide +kernel
theorem dX6_gradedWith_7 : decode cX6_gradedWith 7 = .ok (.if_icmp .ge 22, 3) := by decide +kernel
theorem dX6_gradedWith_10 : decode cX6_gradedWith 10 = .ok (.aload_n 0, 1) := by decide +kernel
theorem dX6_gradedWith_11 : decode cX6_gradedWith 11 = .ok (.getfield 9, 3) := by decide +kernel
theorem dX6_gradedWith_14 : decode cX6_gradedWith 14 = .ok (.iload_n 3, 1) := by decide +kernel
theorem dX6_gradedWith_15 : decode cX6_gradedWith 15 = .ok (.iaload, 1) := by decide +kernel
theorem dX6_gradedWith_16 : decode cX6_gradedWith 16 = .ok (.iload_n 1, 1) := by decide +kernel
theorem dX6_gradedWith_17 : decode cX6_gradedWith 17 = .ok (.if_icmp .ne 6, 3) := by decide +kernel
theorem dX6_gradedWith_20 : decode cX6_gradedWith 20 = .ok (.iinc 2 1, 3) := by decide +kernel
theorem dX6_gradedWith_23 : decode cX6_gradedWith 23 = .ok (.iinc 3 1, 3) := by decide +kernel
theorem dX6_gradedWith_26 : decode cX6_gradedWith 26 = .ok (.goto (-22), 3) := by decide +kernel
theorem dX6_gradedWith_29 : decode cX6_gradedWith 29 = .ok (.iload_n 2, 1) := by decide +kernel
theorem dX6_gradedWith_30 : decode cX6_gradedWith 30 = .ok (.ireturn, 1) := by decide +kernel
theorem dX6_goodOnes_0 : decode cX6_goodOnes 0 = .ok (.iconst 0, 1) := by decide +kernel
theorem dX6_goodOnes_1 : decode cX6_goodOnes 1 = .ok (.istore_n 1, 1) := by decide +kernel
theorem dX6_goodOnes_2 : decode cX6_goodOnes 2 = .ok (.iconst 0, 1) := by decide +kernel
theorem dX6_goodOnes_3 : decode cX6_goodOnes 3 = .ok (.istore_n 2, 1) := by decide +kernel
theorem dX6_goodOnes_4 : decode cX6_goodOnes 4 = .ok (.iload_n 2, 1) := by decide +kernel
theorem dX6_goodOnes_5 : decode cX6_goodOnes 5 = .ok (.bipush 24, 2) := by decide +kernel
theorem dX6_goodOnes_7 : decode cX6_goodOnes 7 = .ok (.if_icmp .ge 22, 3) := by decide +kernel
theorem dX6_goodOnes_10 : decode cX6_goodOnes 10 = .ok (.aload_n 0, 1) := by decide +kernel
theorem dX6_goodOnes_11 : decode cX6_goodOnes 11 = .ok (.getfield 9, 3) := by decide +kernel
theorem dX6_goodOnes_14 : decode cX6_goodOnes 14 = .ok (.iload_n 2, 1) := by decide +kernel
theorem dX6_goodOnes_15 : decode cX6_goodOnes 15 = .ok (.iaload, 1) := by decide +kernel
theorem dX6_goodOnes_16 : decode cX6_goodOnes 16 = .ok (.iconst 1, 1) := by decide +kernel
theorem dX6_goodOnes_17 : decode cX6_goodOnes 17 = .ok (.if_icmp .lt 6, 3) := by decide +kernel
theorem dX6_goodOnes_20 : decode cX6_goodOnes 20 = .ok (.iinc 1 1, 3) := by decide +kernel
theorem dX6_goodOnes_23 : decode cX6_goodOnes 23 = .ok (.iinc 2 1, 3) := by decide +kernel
theorem dX6_goodOnes_26 : decode cX6_goodOnes 26 = .ok (.goto (-22), 3) := by decide +kernel
theorem dX6_goodOnes_29 : decode cX6_goodOnes 29 = .ok (.iload_n 1, 1) := by decide +kernel
theorem dX6_goodOnes_30 : decode cX6_goodOnes 30 = .ok (.ireturn, 1) := by decide +kernel
set_option maxRecDepth 20000 in
theorem ggX6_toldRows_X7_isTold : GoodIn wsX6_toldRows wsX7_isTold := goodIn_r _ [6, 7, 10, 11, 12] (by decide +kernel) (by decide +kernel)
set_option maxRecDepth 20000 in
theorem gX6_toldRows_X7_isTold : GoodIn wsX6_toldRows (wsV RX6 32 RX7 yX7_isTold wsX7_isTold) := goodIn_app (goodIn_of _ (by decide +kernel)) ggX6_toldRows_X7_isTold
theorem dX6_toldRows_0 : decode cX6_toldRows 0 = .ok (.iconst 0, 1) := by decide +kernel
theorem dX6_toldRows_1 : decode cX6_toldRows 1 = .ok (.istore_n 1, 1) := by decide +kernel
theorem dX6_toldRows_2 : decode cX6_toldRows 2 = .ok (.iconst 0, 1) := by decide +kernel
theorem dX6_toldRows_3 : decode cX6_toldRows 3 = .ok (.istore_n 2, 1) := by decide +kernel
theorem dX6_toldRows_4 : decode cX6_toldRows 4 = .ok (.iload_n 2, 1) := by decide +kernel
theorem dX6_toldRows_5 : decode cX6_toldRows 5 = .ok (.iconst 4, 1) := by decide +kernel
theorem dX6_toldRows_6 : decode cX6_toldRows 6 = .ok (.if_icmp .ge 30, 3) := by decide +kernel
theorem dX6_toldRows_9 : decode cX6_toldRows 9 = .ok (.aload_n 0, 1) := by decide +kernel
theorem dX6_toldRows_10 : decode cX6_toldRows 10 = .ok (.getfield 17, 3) := by decide +kernel
theorem dX6_toldRows_13 : decode cX6_toldRows 13 = .ok (.iload_n 2, 1) := by decide +kernel
theorem dX6_toldRows_14 : decode cX6_toldRows 14 = .ok (.aaload, 1) := by decide +kernel
theorem dX6_toldRows_15 : decode cX6_toldRows 15 = .ok (.astore_n 3, 1) := by decide +kernel
theorem dX6_toldRows_16 : decode cX6_toldRows 16 = .ok (.aload_n 3, 1) := by decide +kernel
theorem dX6_toldRows_17 : decode cX6_toldRows 17 = .ok (.ifnull 13, 3) := by decide +kernel
theorem dX6_toldRows_20 : decode cX6_toldRows 20 = .ok (.aload_n 3, 1) := by decide +kernel
theorem dX6_toldRows_21 : decode cX6_toldRows 21 = .ok (.invokevirtual 32, 3) := by decide +kernel
theorem dX6_toldRows_24 : decode cX6_toldRows 24 = .ok (.ifCond .eq 6, 3) := by decide +kernel
theorem dX6_toldRows_27 : decode cX6_toldRows 27 = .ok (.iinc 1 1, 3) := by decide +kernel
theorem dX6_toldRows_30 : decode cX6_toldRows 30 = .ok (.iinc 2 1, 3) := by decide +kernel
theorem dX6_toldRows_33 : decode cX6_toldRows 33 = .ok (.goto (-29), 3) := by decide +kernel
theorem dX6_toldRows_36 : decode cX6_toldRows 36 = .ok (.iload_n 1, 1) := by decide +kernel
theorem dX6_toldRows_37 : decode cX6_toldRows 37 = .ok (.ireturn, 1) := by decide +kernel
set_option maxRecDepth 20000 in
theorem ggX6_pooled_X6_isAmongFirst : GoodIn wsX6_pooled wsX6_isAmongFirst := goodIn_r _ [6, 7, 8, 9, 10, 11, 12, 13, 14, 15, 16, 17, 18, 19, 20, 21, 22, 23] (by decide +kernel) (by decide +kernel)
set_option maxRecDepth 20000 in
theorem gX6_pooled_X6_isAmongFirst : GoodIn wsX6_pooled (wsV RX6 36 RX6 yX6_isAmongFirst wsX6_isAmongFirst) := goodIn_app (goodIn_of _ (by decide +kernel)) ggX6_pooled_X6_isAmongFirst
theorem dX6_pooled_0 : decode cX6_pooled 0 = .ok (.iconst 0, 1) := by decide +kernel
theorem dX6_pooled_1 : decode cX6_pooled 1 = .ok (.istore_n 3, 1) := by decide +kernel
theorem dX6_pooled_2 : decode cX6_pooled 2 = .ok (.iconst 0, 1) := by decide +kernel
theorem dX6_pooled_3 : decode cX6_pooled 3 = .ok (.istore 4, 2) := by decide +kernel
theorem dX6_pooled_5 : decode cX6_pooled 5 = .ok (.iload 4, 2) := by decide +kernel
theorem dX6_pooled_7 : decode cX6_pooled 7 = .ok (.bipush 24, 2) := by decide +kernel
theorem dX6_pooled_9 : decode cX6_pooled 9 = .ok (.if_icmp .ge 41, 3) := by decide +kernel
theorem dX6_pooled_12 : decode cX6_pooled 12 = .ok (.aload_n 0, 1) := by decide +kernel
theorem dX6_pooled_13 : decode cX6_pooled 13 = .ok (.getfield 9, 3) := by decide +kernel
theorem dX6_pooled_16 : decode cX6_pooled 16 = .ok (.iload 4, 2) := by decide +kernel
theorem dX6_pooled_18 : decode cX6_pooled 18 = .ok (.iaload, 1) := by decide +kernel
theorem dX6_pooled_19 : decode cX6_pooled 19 = .ok (.iconst (-1), 1) := by decide +kernel
theorem dX6_pooled_20 : decode cX6_pooled 20 = .ok (.if_icmp .ne 24, 3) := by decide +kernel
theorem dX6_pooled_23 : decode cX6_pooled 23 = .ok (.aload_n 0, 1) := by decide +kernel
theorem dX6_pooled_24 : decode cX6_pooled 24 = .ok (.iload_n 1, 1) := by decide +kernel
theorem dX6_pooled_25 : decode cX6_pooled 25 = .ok (.iload 4, 2) := by decide +kernel
theorem dX6_pooled_27 : decode cX6_pooled 27 = .ok (.invokevirtual 36, 3) := by decide +kernel
theorem dX6_pooled_30 : decode cX6_pooled 30 = .ok (.ifCond .eq 14, 3) := by decide +kernel
theorem dX6_pooled_33 : decode cX6_pooled 33 = .ok (.iload_n 3, 1) := by decide +kernel
theorem dX6_pooled_34 : decode cX6_pooled 34 = .ok (.iload_n 2, 1) := by decide +kernel
theorem dX6_pooled_35 : decode cX6_pooled 35 = .ok (.if_icmp .ne 6, 3) := by decide +kernel
theorem dX6_pooled_38 : decode cX6_pooled 38 = .ok (.iload 4, 2) := by decide +kernel
theorem dX6_pooled_40 : decode cX6_pooled 40 = .ok (.ireturn, 1) := by decide +kernel
theorem dX6_pooled_41 : decode cX6_pooled 41 = .ok (.iinc 3 1, 3) := by decide +kernel
theorem dX6_pooled_44 : decode cX6_pooled 44 = .ok (.iinc 4 1, 3) := by decide +kernel
theorem dX6_pooled_47 : decode cX6_pooled 47 = .ok (.goto (-42), 3) := by decide +kernel
theorem dX6_pooled_50 : decode cX6_pooled 50 = .ok (.iconst (-1), 1) := by decide +kernel
theorem dX6_pooled_51 : decode cX6_pooled 51 = .ok (.ireturn, 1) := by decide +kernel
set_option maxRecDepth 20000 in
theorem ggX6_isAmongFirst_X7_hasAmongFirst : GoodIn wsX6_isAmongFirst wsX7_hasAmongFirst := goodIn_r _ [6, 7, 8, 9, 5, 10, 11, 12, 15, 16, 17] (by decide +kernel) (by decide +kernel)
set_option maxRecDepth 20000 in
theorem gX6_isAmongFirst_X7_hasAmongFirst : GoodIn wsX6_isAmongFirst (wsV RX6 40 RX7 yX7_hasAmongFirst wsX7_hasAmongFirst) := goodIn_app (goodIn_of _ (by decide +kernel)) ggX6_isAmongFirst_X7_hasAmongFirst
theorem dX6_isAmongFirst_0 : decode cX6_isAmongFirst 0 = .ok (.iconst 0, 1) := by decide +kernel
theorem dX6_isAmongFirst_1 : decode cX6_isAmongFirst 1 = .ok (.istore_n 3, 1) := by decide +kernel
theorem dX6_isAmongFirst_2 : decode cX6_isAmongFirst 2 = .ok (.iload_n 3, 1) := by decide +kernel
theorem dX6_isAmongFirst_3 : decode cX6_isAmongFirst 3 = .ok (.iconst 4, 1) := by decide +kernel
theorem dX6_isAmongFirst_4 : decode cX6_isAmongFirst 4 = .ok (.if_icmp .ge 34, 3) := by decide +kernel
theorem dX6_isAmongFirst_7 : decode cX6_isAmongFirst 7 = .ok (.aload_n 0, 1) := by decide +kernel
theorem dX6_isAmongFirst_8 : decode cX6_isAmongFirst 8 = .ok (.getfield 17, 3) := by decide +kernel
theorem dX6_isAmongFirst_11 : decode cX6_isAmongFirst 11 = .ok (.iload_n 3, 1) := by decide +kernel
theorem dX6_isAmongFirst_12 : decode cX6_isAmongFirst 12 = .ok (.aaload, 1) := by decide +kernel
theorem dX6_isAmongFirst_13 : decode cX6_isAmongFirst 13 = .ok (.astore 4, 2) := by decide +kernel
theorem dX6_isAmongFirst_15 : decode cX6_isAmongFirst 15 = .ok (.aload 4, 2) := by decide +kernel
theorem dX6_isAmongFirst_17 : decode cX6_isAmongFirst 17 = .ok (.ifnull 15, 3) := by decide +kernel
theorem dX6_isAmongFirst_20 : decode cX6_isAmongFirst 20 = .ok (.aload 4, 2) := by decide +kernel
theorem dX6_isAmongFirst_22 : decode cX6_isAmongFirst 22 = .ok (.iload_n 1, 1) := by decide +kernel
theorem dX6_isAmongFirst_23 : decode cX6_isAmongFirst 23 = .ok (.iload_n 2, 1) := by decide +kernel
theorem dX6_isAmongFirst_24 : decode cX6_isAmongFirst 24 = .ok (.invokevirtual 40, 3) := by decide +kernel
theorem dX6_isAmongFirst_27 : decode cX6_isAmongFirst 27 = .ok (.ifCond .eq 5, 3) := by decide +kernel
theorem dX6_isAmongFirst_30 : decode cX6_isAmongFirst 30 = .ok (.iconst 1, 1) := by decide +kernel
theorem dX6_isAmongFirst_31 : decode cX6_isAmongFirst 31 = .ok (.ireturn, 1) := by decide +kernel
theorem dX6_isAmongFirst_32 : decode cX6_isAmongFirst 32 = .ok (.iinc 3 1, 3) := by decide +kernel
theorem dX6_isAmongFirst_35 : decode cX6_isAmongFirst 35 = .ok (.goto (-33), 3) := by decide +kernel
theorem dX6_isAmongFirst_38 : decode cX6_isAmongFirst 38 = .ok (.iconst 0, 1) := by decide +kernel
theorem dX6_isAmongFirst_39 : decode cX6_isAmongFirst 39 = .ok (.ireturn, 1) := by decide +kernel
theorem dX7_init_0 : decode cX7_init 0 = .ok (.aload_n 0, 1) := by decide +kernel
theorem dX7_init_1 : decode cX7_init 1 = .ok (.invokespecial 3, 3) := by decide +kernel
theorem dX7_init_4 : decode cX7_init 4 = .ok (.aload_n 0, 1) := by decide +kernel
theorem dX7_init_5 : decode cX7_init 5 = .ok (.bipush 16, 2) := by decide +kernel
theorem dX7_init_7 : decode cX7_init 7 = .ok (.newarray .int, 2) := by decide +kernel
theorem dX7_init_9 : decode cX7_init 9 = .ok (.putfield 9, 3) := by decide +kernel
theorem dX7_init_12 : decode cX7_init 12 = .ok (.return_, 1) := by decide +kernel
theorem dX7_size_0 : decode cX7_size 0 = .ok (.aload_n 0, 1) := by decide +kernel
theorem dX7_size_1 : decode cX7_size 1 = .ok (.getfield 15, 3) := by decide +kernel
theorem dX7_size_4 : decode cX7_size 4 = .ok (.ireturn, 1) := by decide +kernel
theorem dX7_isTold_0 : decode cX7_isTold 0 = .ok (.aload_n 0, 1) := by decide +kernel
theorem dX7_isTold_1 : decode cX7_isTold 1 = .ok (.getfield 19, 3) := by decide +kernel
theorem dX7_isTold_4 : decode cX7_isTold 4 = .ok (.ireturn, 1) := by decide +kernel
theorem dX7_documentAt_0 : decode cX7_documentAt 0 = .ok (.iload_n 1, 1) := by decide +kernel
theorem dX7_documentAt_1 : decode cX7_documentAt 1 = .ok (.iconst 1, 1) := by decide +kernel
theorem dX7_documentAt_2 : decode cX7_documentAt 2 = .ok (.if_icmp .lt 28, 3) := by decide +kernel
theorem dX7_documentAt_5 : decode cX7_documentAt 5 = .ok (.iload_n 1, 1) := by decide +kernel
theorem dX7_documentAt_6 : decode cX7_documentAt 6 = .ok (.aload_n 0, 1) := by decide +kernel
theorem dX7_documentAt_7 : decode cX7_documentAt 7 = .ok (.getfield 15, 3) := by decide +kernel
theorem dX7_documentAt_10 : decode cX7_documentAt 10 = .ok (.if_icmp .gt 20, 3) := by decide +kernel
theorem dX7_documentAt_13 : decode cX7_documentAt 13 = .ok (.iload_n 1, 1) := by decide +kernel
theorem dX7_documentAt_14 : decode cX7_documentAt 14 = .ok (.bipush 16, 2) := by decide +kernel
theorem dX7_documentAt_16 : decode cX7_documentAt 16 = .ok (.if_icmp .gt 14, 3) := by decide +kernel
theorem dX7_documentAt_19 : decode cX7_documentAt 19 = .ok (.aload_n 0, 1) := by decide +kernel
theorem dX7_documentAt_20 : decode cX7_documentAt 20 = .ok (.getfield 9, 3) := by decide +kernel
theorem dX7_documentAt_23 : decode cX7_documentAt 23 = .ok (.iload_n 1, 1) := by decide +kernel
theorem dX7_documentAt_24 : decode cX7_documentAt 24 = .ok (.iconst 1, 1) := by decide +kernel
theorem dX7_documentAt_25 : decode cX7_documentAt 25 = .ok (.isub, 1) := by decide +kernel
theorem dX7_documentAt_26 : decode cX7_documentAt 26 = .ok (.iaload, 1) := by decide +kernel
theorem dX7_documentAt_27 : decode cX7_documentAt 27 = .ok (.goto 4, 3) := by decide +kernel
theorem dX7_documentAt_30 : decode cX7_documentAt 30 = .ok (.iconst (-1), 1) := by decide +kernel
theorem dX7_documentAt_31 : decode cX7_documentAt 31 = .ok (.ireturn, 1) := by decide +kernel
theorem dX7_rankOf_0 : decode cX7_rankOf 0 = .ok (.iconst 0, 1) := by decide +kernel
theorem dX7_rankOf_1 : decode cX7_rankOf 1 = .ok (.istore_n 2, 1) := by decide +kernel
theorem dX7_rankOf_2 : decode cX7_rankOf 2 = .ok (.iload_n 2, 1) := by decide +kernel
theorem dX7_rankOf_3 : decode cX7_rankOf 3 = .ok (.aload_n 0, 1) := by decide +kernel
theorem dX7_rankOf_4 : decode cX7_rankOf 4 = .ok (.getfield 15, 3) := by decide +kernel
theorem dX7_rankOf_7 : decode cX7_rankOf 7 = .ok (.if_icmp .ge 29, 3) := by decide +kernel
theorem dX7_rankOf_10 : decode cX7_rankOf 10 = .ok (.iload_n 2, 1) := by decide +kernel
theorem dX7_rankOf_11 : decode cX7_rankOf 11 = .ok (.bipush 16, 2) := by decide +kernel
theorem dX7_rankOf_13 : decode cX7_rankOf 13 = .ok (.if_icmp .ge 23, 3) := by decide +kernel
theorem dX7_rankOf_16 : decode cX7_rankOf 16 = .ok (.aload_n 0, 1) := by decide +kernel
theorem dX7_rankOf_17 : decode cX7_rankOf 17 = .ok (.getfield 9, 3) := by decide +kernel
theorem dX7_rankOf_20 : decode cX7_rankOf 20 = .ok (.iload_n 2, 1) := by decide +kernel
theorem dX7_rankOf_21 : decode cX7_rankOf 21 = .ok (.iaload, 1) := by decide +kernel
theorem dX7_rankOf_22 : decode cX7_rankOf 22 = .ok (.iload_n 1, 1) := by decide +kernel
theorem dX7_rankOf_23 : decode cX7_rankOf 23 = .ok (.if_icmp .ne 7, 3) := by decide +kernel
theorem dX7_rankOf_26 : decode cX7_rankOf 26 = .ok (.iload_n 2, 1) := by decide +kernel
theorem dX7_rankOf_27 : decode cX7_rankOf 27 = .ok (.iconst 1, 1) := by decide +kernel
theorem dX7_rankOf_28 : decode cX7_rankOf 28 = .ok (.iadd, 1) := by decide +kernel
theorem dX7_rankOf_29 : decode cX7_rankOf 29 = .ok (.ireturn, 1) := by decide +kernel
theorem dX7_rankOf_30 : decode cX7_rankOf 30 = .ok (.iinc 2 1, 3) := by decide +kernel
theorem dX7_rankOf_33 : decode cX7_rankOf 33 = .ok (.goto (-31), 3) := by decide +kernel
theorem dX7_rankOf_36 : decode cX7_rankOf 36 = .ok (.iconst 0, 1) := by decide +kernel
theorem dX7_rankOf_37 : decode cX7_rankOf 37 = .ok (.ireturn, 1) := by decide +kernel
set_option maxRecDepth 20000 in
theorem ggX7_hasAmongFirst_X7_rankOf : GoodIn wsX7_hasAmongFirst wsX7_rankOf := goodIn_r _ [5, 6, 7, 8, 9, 10] (by decide +kernel) (by decide +kernel)
set_option maxRecDepth 20000 in
theorem gX7_hasAmongFirst_X7_rankOf : GoodIn wsX7_hasAmongFirst (wsV RX7 23 RX7 yX7_rankOf wsX7_rankOf) := goodIn_app (goodIn_of _ (by decide +kernel)) ggX7_hasAmongFirst_X7_rankOf
theorem dX7_hasAmongFirst_0 : decode cX7_hasAmongFirst 0 = .ok (.aload_n 0, 1) := by decide +kernel
theorem dX7_hasAmongFirst_1 : decode cX7_hasAmongFirst 1 = .ok (.iload_n 2, 1) := by decide +kernel
theorem dX7_hasAmongFirst_2 : decode cX7_hasAmongFirst 2 = .ok (.invokevirtual 23, 3) := by decide +kernel
theorem dX7_hasAmongFirst_5 : decode cX7_hasAmongFirst 5 = .ok (.istore_n 3, 1) := by decide +kernel
theorem dX7_hasAmongFirst_6 : decode cX7_hasAmongFirst 6 = .ok (.iload_n 3, 1) := by decide +kernel
theorem dX7_hasAmongFirst_7 : decode cX7_hasAmongFirst 7 = .ok (.ifCond .le 12, 3) := by decide +kernel
theorem dX7_hasAmongFirst_10 : decode cX7_hasAmongFirst 10 = .ok (.iload_n 3, 1) := by decide +kernel
theorem dX7_hasAmongFirst_11 : decode cX7_hasAmongFirst 11 = .ok (.iload_n 1, 1) := by decide +kernel
theorem dX7_hasAmongFirst_12 : decode cX7_hasAmongFirst 12 = .ok (.if_icmp .gt 7, 3) := by decide +kernel
theorem dX7_hasAmongFirst_15 : decode cX7_hasAmongFirst 15 = .ok (.iconst 1, 1) := by decide +kernel
theorem dX7_hasAmongFirst_16 : decode cX7_hasAmongFirst 16 = .ok (.goto 4, 3) := by decide +kernel
theorem dX7_hasAmongFirst_19 : decode cX7_hasAmongFirst 19 = .ok (.iconst 0, 1) := by decide +kernel
theorem dX7_hasAmongFirst_20 : decode cX7_hasAmongFirst 20 = .ok (.ireturn, 1) := by decide +kernel
theorem dX7_append_0 : decode cX7_append 0 = .ok (.aload_n 0, 1) := by decide +kernel
theorem dX7_append_1 : decode cX7_append 1 = .ok (.getfield 15, 3) := by decide +kernel
theorem dX7_append_4 : decode cX7_append 4 = .ok (.ifCond .lt 37, 3) := by decide +kernel
theorem dX7_append_7 : decode cX7_append 7 = .ok (.aload_n 0, 1) := by decide +kernel
theorem dX7_append_8 : decode cX7_append 8 = .ok (.getfield 15, 3) := by decide +kernel
theorem dX7_append_11 : decode cX7_append 11 = .ok (.bipush 16, 2) := by decide +kernel
theorem dX7_append_13 : decode cX7_append 13 = .ok (.if_icmp .ge 28, 3) := by decide +kernel
theorem dX7_append_16 : decode cX7_append 16 = .ok (.aload_n 0, 1) := by decide +kernel
theorem dX7_append_17 : decode cX7_append 17 = .ok (.getfield 9, 3) := by decide +kernel
theorem dX7_append_20 : decode cX7_append 20 = .ok (.aload_n 0, 1) := by decide +kernel
theorem dX7_append_21 : decode cX7_append 21 = .ok (.getfield 15, 3) := by decide +kernel
theorem dX7_append_24 : decode cX7_append 24 = .ok (.iload_n 1, 1) := by decide +kernel
theorem dX7_append_25 : decode cX7_append 25 = .ok (.iastore, 1) := by decide +kernel
theorem dX7_append_26 : decode cX7_append 26 = .ok (.aload_n 0, 1) := by decide +kernel
theorem dX7_append_27 : decode cX7_append 27 = .ok (.dup, 1) := by decide +kernel
theorem dX7_append_28 : decode cX7_append 28 = .ok (.getfield 15, 3) := by decide +kernel
theorem dX7_append_31 : decode cX7_append 31 = .ok (.iconst 1, 1) := by decide +kernel
theorem dX7_append_32 : decode cX7_append 32 = .ok (.iadd, 1) := by decide +kernel
theorem dX7_append_33 : decode cX7_append 33 = .ok (.putfield 15, 3) := by decide +kernel
theorem dX7_append_36 : decode cX7_append 36 = .ok (.aload_n 0, 1) := by decide +kernel
theorem dX7_append_37 : decode cX7_append 37 = .ok (.iconst 1, 1) := by decide +kernel
theorem dX7_append_38 : decode cX7_append 38 = .ok (.putfield 19, 3) := by decide +kernel
theorem dX7_append_41 : decode cX7_append 41 = .ok (.return_, 1) := by decide +kernel
theorem dX7_clear_0 : decode cX7_clear 0 = .ok (.aload_n 0, 1) := by decide +kernel
theorem dX7_clear_1 : decode cX7_clear 1 = .ok (.iconst 0, 1) := by decide +kernel
theorem dX7_clear_2 : decode cX7_clear 2 = .ok (.putfield 15, 3) := by decide +kernel
theorem dX7_clear_5 : decode cX7_clear 5 = .ok (.aload_n 0, 1) := by decide +kernel
theorem dX7_clear_6 : decode cX7_clear 6 = .ok (.iload_n 1, 1) := by decide +kernel
theorem dX7_clear_7 : decode cX7_clear 7 = .ok (.putfield 19, 3) := by decide +kernel
theorem dX7_clear_10 : decode cX7_clear 10 = .ok (.return_, 1) := by decide +kernel
set_option maxRecDepth 20000 in
theorem ggX8_init_X1_init : GoodIn wsX8_init wsX1_init := goodIn_r _ [23, 24, 2, 3, 25, 62, 63] (by decide +kernel) (by decide +kernel)
set_option maxRecDepth 20000 in
theorem gX8_init_X1_init_n17 : GoodIn wsX8_init (wsX1_init) := ggX8_init_X1_init
set_option maxRecDepth 20000 in
theorem ggX8_init_X0_init : GoodIn wsX8_init wsX0_init := goodIn_r _ [27, 28, 2, 3, 29, 30, 31, 64, 65, 66] (by decide +kernel) (by decide +kernel)
set_option maxRecDepth 20000 in
theorem gX8_init_X0_init_n30 : GoodIn wsX8_init (wsX0_init) := ggX8_init_X0_init
set_option maxRecDepth 20000 in
theorem ggX8_init_X4_init : GoodIn wsX8_init wsX4_init := goodIn_r _ [33, 34, 2, 3, 35, 36, 37, 38, 67, 68, 69, 70, 71, 72, 73] (by decide +kernel) (by decide +kernel)
set_option maxRecDepth 20000 in
theorem gX8_init_X4_init_n37 : GoodIn wsX8_init (wsX4_init) := ggX8_init_X4_init
set_option maxRecDepth 20000 in
theorem ggX8_init_X6_init : GoodIn wsX8_init wsX6_init := goodIn_r _ [41, 42, 2, 3, 35, 43, 44, 45, 46, 47, 48, 49, 50, 51, 52, 53, 54, 55, 74, 75, 76, 77, 78] (by decide +kernel) (by decide +kernel)
set_option maxRecDepth 20000 in
theorem gX8_init_X6_init : GoodIn wsX8_init (wsX6_init) := ggX8_init_X6_init
theorem dX8_init_0 : decode cX8_init 0 = .ok (.aload_n 0, 1) := by decide +kernel
theorem dX8_init_1 : decode cX8_init 1 = .ok (.invokespecial 1, 3) := by decide +kernel
theorem dX8_init_4 : decode cX8_init 4 = .ok (.aload_n 0, 1) := by decide +kernel
theorem dX8_init_5 : decode cX8_init 5 = .ok (.bipush 8, 2) := by decide +kernel
theorem dX8_init_7 : decode cX8_init 7 = .ok (.anewarray 9, 3) := by decide +kernel
theorem dX8_init_10 : decode cX8_init 10 = .ok (.putfield 11, 3) := by decide +kernel
theorem dX8_init_13 : decode cX8_init 13 = .ok (.aload_n 0, 1) := by decide +kernel
theorem dX8_init_14 : decode cX8_init 14 = .ok (.new 15, 3) := by decide +kernel
theorem dX8_init_17 : decode cX8_init 17 = .ok (.dup, 1) := by decide +kernel
theorem dX8_init_18 : decode cX8_init 18 = .ok (.invokespecial 17, 3) := by decide +kernel
theorem dX8_init_21 : decode cX8_init 21 = .ok (.putfield 18, 3) := by decide +kernel
theorem dX8_init_24 : decode cX8_init 24 = .ok (.aload_n 0, 1) := by decide +kernel
theorem dX8_init_25 : decode cX8_init 25 = .ok (.new 15, 3) := by decide +kernel
theorem dX8_init_28 : decode cX8_init 28 = .ok (.dup, 1) := by decide +kernel
theorem dX8_init_29 : decode cX8_init 29 = .ok (.invokespecial 17, 3) := by decide +kernel
theorem dX8_init_32 : decode cX8_init 32 = .ok (.putfield 22, 3) := by decide +kernel
theorem dX8_init_35 : decode cX8_init 35 = .ok (.aload_n 0, 1) := by decide +kernel
theorem dX8_init_36 : decode cX8_init 36 = .ok (.new 15, 3) := by decide +kernel
theorem dX8_init_39 : decode cX8_init 39 = .ok (.dup, 1) := by decide +kernel
theorem dX8_init_40 : decode cX8_init 40 = .ok (.invokespecial 17, 3) := by decide +kernel
theorem dX8_init_43 : decode cX8_init 43 = .ok (.putfield 25, 3) := by decide +kernel
theorem dX8_init_46 : decode cX8_init 46 = .ok (.aload_n 0, 1) := by decide +kernel
theorem dX8_init_47 : decode cX8_init 47 = .ok (.new 28, 3) := by decide +kernel
theorem dX8_init_50 : decode cX8_init 50 = .ok (.dup, 1) := by decide +kernel
theorem dX8_init_51 : decode cX8_init 51 = .ok (.invokespecial 30, 3) := by decide +kernel
theorem dX8_init_54 : decode cX8_init 54 = .ok (.putfield 31, 3) := by decide +kernel
theorem dX8_init_57 : decode cX8_init 57 = .ok (.aload_n 0, 1) := by decide +kernel
theorem dX8_init_58 : decode cX8_init 58 = .ok (.new 35, 3) := by decide +kernel
theorem dX8_init_61 : decode cX8_init 61 = .ok (.dup, 1) := by decide +kernel
theorem dX8_init_62 : decode cX8_init 62 = .ok (.invokespecial 37, 3) := by decide +kernel
theorem dX8_init_65 : decode cX8_init 65 = .ok (.putfield 38, 3) := by decide +kernel
theorem dX8_init_68 : decode cX8_init 68 = .ok (.iconst 0, 1) := by decide +kernel
theorem dX8_init_69 : decode cX8_init 69 = .ok (.istore_n 1, 1) := by decide +kernel
theorem dX8_init_70 : decode cX8_init 70 = .ok (.iload_n 1, 1) := by decide +kernel
theorem dX8_init_71 : decode cX8_init 71 = .ok (.bipush 8, 2) := by decide +kernel
theorem dX8_init_73 : decode cX8_init 73 = .ok (.if_icmp .ge 22, 3) := by decide +kernel
theorem dX8_init_76 : decode cX8_init 76 = .ok (.aload_n 0, 1) := by decide +kernel
theorem dX8_init_77 : decode cX8_init 77 = .ok (.getfield 11, 3) := by decide +kernel
theorem dX8_init_80 : decode cX8_init 80 = .ok (.iload_n 1, 1) := by decide +kernel
theorem dX8_init_81 : decode cX8_init 81 = .ok (.new 9, 3) := by decide +kernel
theorem dX8_init_84 : decode cX8_init 84 = .ok (.dup, 1) := by decide +kernel
theorem dX8_init_85 : decode cX8_init 85 = .ok (.invokespecial 42, 3) := by decide +kernel
theorem dX8_init_88 : decode cX8_init 88 = .ok (.aastore, 1) := by decide +kernel
theorem dX8_init_89 : decode cX8_init 89 = .ok (.iinc 1 1, 3) := by decide +kernel
theorem dX8_init_92 : decode cX8_init 92 = .ok (.goto (-22), 3) := by decide +kernel
theorem dX8_init_95 : decode cX8_init 95 = .ok (.return_, 1) := by decide +kernel
set_option maxRecDepth 20000 in
theorem ggX8_grade_X8_questionOf : GoodIn wsX8_grade wsX8_questionOf := goodIn_r _ [5, 6, 20, 21, 22, 23, 24, 25] (by decide +kernel) (by decide +kernel)
set_option maxRecDepth 20000 in
theorem gX8_grade_X8_questionOf : GoodIn wsX8_grade (wsV RX8 43 RX8 yX8_questionOf wsX8_questionOf) := goodIn_app (goodIn_of _ (by decide +kernel)) ggX8_grade_X8_questionOf
set_option maxRecDepth 20000 in
theorem ggX8_grade_X8_isDocument : GoodIn wsX8_grade wsX8_isDocument := goodIn_r _ [9] (by decide +kernel) (by decide +kernel)
set_option maxRecDepth 20000 in
theorem gX8_grade_X8_isDocument : GoodIn wsX8_grade (va_wsS RX8 47 yX8_isDocument wsX8_isDocument) := goodIn_app (goodIn_of _ (by decide +kernel)) ggX8_grade_X8_isDocument
set_option maxRecDepth 20000 in
theorem ggX8_grade_X6_gradeOf : GoodIn wsX8_grade wsX6_gradeOf := goodIn_r _ [14, 15, 26, 27] (by decide +kernel) (by decide +kernel)
set_option maxRecDepth 20000 in
theorem gX8_grade_X6_gradeOf : GoodIn wsX8_grade (wsV RX8 51 RX6 yX6_gradeOf wsX6_gradeOf) := goodIn_app (goodIn_of _ (by decide +kernel)) ggX8_grade_X6_gradeOf
set_option maxRecDepth 20000 in
theorem ggX8_grade_X6_judge : GoodIn wsX8_grade wsX6_judge := goodIn_r _ [19, 15, 26, 27] (by decide +kernel) (by decide +kernel)
set_option maxRecDepth 20000 in
theorem gX8_grade_X6_judge : GoodIn wsX8_grade (wsV RX8 55 RX6 yX6_judge wsX6_judge) := goodIn_app (goodIn_of _ (by decide +kernel)) ggX8_grade_X6_judge
theorem dX8_grade_0 : decode cX8_grade 0 = .ok (.aload_n 0, 1) := by decide +kernel
theorem dX8_grade_1 : decode cX8_grade 1 = .ok (.iload_n 1, 1) := by decide +kernel
theorem dX8_grade_2 : decode cX8_grade 2 = .ok (.invokevirtual 43, 3) := by decide +kernel
theorem dX8_grade_5 : decode cX8_grade 5 = .ok (.astore 4, 2) := by decide +kernel
theorem dX8_grade_7 : decode cX8_grade 7 = .ok (.aload 4, 2) := by decide +kernel
theorem dX8_grade_9 : decode cX8_grade 9 = .ok (.ifnull 10, 3) := by decide +kernel
theorem dX8_grade_12 : decode cX8_grade 12 = .ok (.iload_n 2, 1) := by decide +kernel
theorem dX8_grade_13 : decode cX8_grade 13 = .ok (.invokestatic 47, 3) := by decide +kernel
theorem dX8_grade_16 : decode cX8_grade 16 = .ok (.ifCond .ne 5, 3) := by decide +kernel
theorem dX8_grade_19 : decode cX8_grade 19 = .ok (.iconst (-1), 1) := by decide +kernel
theorem dX8_grade_20 : decode cX8_grade 20 = .ok (.ireturn, 1) := by decide +kernel
theorem dX8_grade_21 : decode cX8_grade 21 = .ok (.iload_n 3, 1) := by decide +kernel
theorem dX8_grade_22 : decode cX8_grade 22 = .ok (.iconst (-1), 1) := by decide +kernel
theorem dX8_grade_23 : decode cX8_grade 23 = .ok (.if_icmp .lt 8, 3) := by decide +kernel
theorem dX8_grade_26 : decode cX8_grade 26 = .ok (.iload_n 3, 1) := by decide +kernel
theorem dX8_grade_27 : decode cX8_grade 27 = .ok (.iconst 3, 1) := by decide +kernel
theorem dX8_grade_28 : decode cX8_grade 28 = .ok (.if_icmp .le 6, 3) := by decide +kernel
theorem dX8_grade_31 : decode cX8_grade 31 = .ok (.bipush (-2), 2) := by decide +kernel
theorem dX8_grade_33 : decode cX8_grade 33 = .ok (.ireturn, 1) := by decide +kernel
theorem dX8_grade_34 : decode cX8_grade 34 = .ok (.aload 4, 2) := by decide +kernel
theorem dX8_grade_36 : decode cX8_grade 36 = .ok (.iload_n 2, 1) := by decide +kernel
theorem dX8_grade_37 : decode cX8_grade 37 = .ok (.invokevirtual 51, 3) := by decide +kernel
theorem dX8_grade_40 : decode cX8_grade 40 = .ok (.istore 5, 2) := by decide +kernel
theorem dX8_grade_42 : decode cX8_grade 42 = .ok (.aload 4, 2) := by decide +kernel
theorem dX8_grade_44 : decode cX8_grade 44 = .ok (.iload_n 2, 1) := by decide +kernel
theorem dX8_grade_45 : decode cX8_grade 45 = .ok (.iload_n 3, 1) := by decide +kernel
theorem dX8_grade_46 : decode cX8_grade 46 = .ok (.invokevirtual 55, 3) := by decide +kernel
theorem dX8_grade_49 : decode cX8_grade 49 = .ok (.iload 5, 2) := by decide +kernel
theorem dX8_grade_51 : decode cX8_grade 51 = .ok (.bipush 10, 2) := by decide +kernel
theorem dX8_grade_53 : decode cX8_grade 53 = .ok (.iadd, 1) := by decide +kernel
theorem dX8_grade_54 : decode cX8_grade 54 = .ok (.ireturn, 1) := by decide +kernel
set_option maxRecDepth 20000 in
theorem ggX8_rank_X8_placeOf : GoodIn wsX8_rank wsX8_placeOf := goodIn_r _ [5, 6, 7, 8, 4, 9, 10, 11, 12, 13, 14, 15, 16, 36, 37, 38, 39, 40, 41, 42, 43] (by decide +kernel) (by decide +kernel)
set_option maxRecDepth 20000 in
theorem gX8_rank_X8_placeOf : GoodIn wsX8_rank (wsV RX8 59 RX8 yX8_placeOf wsX8_placeOf) := goodIn_app (goodIn_of _ (by decide +kernel)) ggX8_rank_X8_placeOf
set_option maxRecDepth 20000 in
theorem ggX8_rank_X8_isDocument : GoodIn wsX8_rank wsX8_isDocument := goodIn_r _ [19] (by decide +kernel) (by decide +kernel)
set_option maxRecDepth 20000 in
theorem gX8_rank_X8_isDocument : GoodIn wsX8_rank (va_wsS RX8 47 yX8_isDocument wsX8_isDocument) := goodIn_app (goodIn_of _ (by decide +kernel)) ggX8_rank_X8_isDocument
set_option maxRecDepth 20000 in
theorem ggX8_rank_X7_rankOf : GoodIn wsX8_rank wsX7_rankOf := goodIn_r _ [24, 25, 26, 44, 45, 46] (by decide +kernel) (by decide +kernel)
set_option maxRecDepth 20000 in
theorem gX8_rank_X7_rankOf : GoodIn wsX8_rank (wsV RX8 63 RX7 yX7_rankOf wsX7_rankOf) := goodIn_app (goodIn_of _ (by decide +kernel)) ggX8_rank_X7_rankOf
set_option maxRecDepth 20000 in
theorem ggX8_rank_X7_size : GoodIn wsX8_rank wsX7_size := goodIn_r _ [30, 25, 44, 45, 46] (by decide +kernel) (by decide +kernel)
set_option maxRecDepth 20000 in
theorem gX8_rank_X7_size : GoodIn wsX8_rank (wsV RX8 68 RX7 yX7_size wsX7_size) := goodIn_app (goodIn_of _ (by decide +kernel)) ggX8_rank_X7_size
set_option maxRecDepth 20000 in
theorem ggX8_rank_X7_append : GoodIn wsX8_rank wsX7_append := goodIn_r _ [34, 25, 26, 35, 44, 45, 46] (by decide +kernel) (by decide +kernel)
set_option maxRecDepth 20000 in
theorem gX8_rank_X7_append : GoodIn wsX8_rank (wsV RX8 72 RX7 yX7_append wsX7_append) := goodIn_app (goodIn_of _ (by decide +kernel)) ggX8_rank_X7_append
theorem dX8_rank_0 : decode cX8_rank 0 = .ok (.aload_n 0, 1) := by decide +kernel
theorem dX8_rank_1 : decode cX8_rank 1 = .ok (.iload_n 1, 1) := by decide +kernel
theorem dX8_rank_2 : decode cX8_rank 2 = .ok (.iload_n 2, 1) := by decide +kernel
theorem dX8_rank_3 : decode cX8_rank 3 = .ok (.invokevirtual 59, 3) := by decide +kernel
theorem dX8_rank_6 : decode cX8_rank 6 = .ok (.astore 4, 2) := by decide +kernel
theorem dX8_rank_8 : decode cX8_rank 8 = .ok (.aload 4, 2) := by decide +kernel
theorem dX8_rank_10 : decode cX8_rank 10 = .ok (.ifnull 10, 3) := by decide +kernel
theorem dX8_rank_13 : decode cX8_rank 13 = .ok (.iload_n 3, 1) := by decide +kernel
theorem dX8_rank_14 : decode cX8_rank 14 = .ok (.invokestatic 47, 3) := by decide +kernel
theorem dX8_rank_17 : decode cX8_rank 17 = .ok (.ifCond .ne 5, 3) := by decide +kernel
theorem dX8_rank_20 : decode cX8_rank 20 = .ok (.iconst (-1), 1) := by decide +kernel
theorem dX8_rank_21 : decode cX8_rank 21 = .ok (.ireturn, 1) := by decide +kernel
theorem dX8_rank_22 : decode cX8_rank 22 = .ok (.aload 4, 2) := by decide +kernel
theorem dX8_rank_24 : decode cX8_rank 24 = .ok (.iload_n 3, 1) := by decide +kernel
theorem dX8_rank_25 : decode cX8_rank 25 = .ok (.invokevirtual 63, 3) := by decide +kernel
theorem dX8_rank_28 : decode cX8_rank 28 = .ok (.ifCond .le 6, 3) := by decide +kernel
theorem dX8_rank_31 : decode cX8_rank 31 = .ok (.bipush (-3), 2) := by decide +kernel
theorem dX8_rank_33 : decode cX8_rank 33 = .ok (.ireturn, 1) := by decide +kernel
theorem dX8_rank_34 : decode cX8_rank 34 = .ok (.aload 4, 2) := by decide +kernel
theorem dX8_rank_36 : decode cX8_rank 36 = .ok (.invokevirtual 68, 3) := by decide +kernel
theorem dX8_rank_39 : decode cX8_rank 39 = .ok (.bipush 16, 2) := by decide +kernel
theorem dX8_rank_41 : decode cX8_rank 41 = .ok (.if_icmp .lt 6, 3) := by decide +kernel
theorem dX8_rank_44 : decode cX8_rank 44 = .ok (.bipush (-4), 2) := by decide +kernel
theorem dX8_rank_46 : decode cX8_rank 46 = .ok (.ireturn, 1) := by decide +kernel
theorem dX8_rank_47 : decode cX8_rank 47 = .ok (.aload 4, 2) := by decide +kernel
theorem dX8_rank_49 : decode cX8_rank 49 = .ok (.iload_n 3, 1) := by decide +kernel
theorem dX8_rank_50 : decode cX8_rank 50 = .ok (.invokevirtual 72, 3) := by decide +kernel
theorem dX8_rank_53 : decode cX8_rank 53 = .ok (.aload 4, 2) := by decide +kernel
theorem dX8_rank_55 : decode cX8_rank 55 = .ok (.invokevirtual 68, 3) := by decide +kernel
theorem dX8_rank_58 : decode cX8_rank 58 = .ok (.ireturn, 1) := by decide +kernel
set_option maxRecDepth 20000 in
theorem ggX8_empty_X8_placeOf : GoodIn wsX8_empty wsX8_placeOf := goodIn_r _ [5, 6, 7, 8, 4, 9, 10, 11, 12, 13, 14, 15, 16, 28, 29, 30, 31, 32, 33, 34, 35] (by decide +kernel) (by decide +kernel)
set_option maxRecDepth 20000 in
theorem gX8_empty_X8_placeOf : GoodIn wsX8_empty (wsV RX8 59 RX8 yX8_placeOf wsX8_placeOf) := goodIn_app (goodIn_of _ (by decide +kernel)) ggX8_empty_X8_placeOf
set_option maxRecDepth 20000 in
theorem ggX8_empty_X7_size : GoodIn wsX8_empty wsX7_size := goodIn_r _ [21, 22, 36, 37, 38] (by decide +kernel) (by decide +kernel)
set_option maxRecDepth 20000 in
theorem gX8_empty_X7_size : GoodIn wsX8_empty (wsV RX8 68 RX7 yX7_size wsX7_size) := goodIn_app (goodIn_of _ (by decide +kernel)) ggX8_empty_X7_size
set_option maxRecDepth 20000 in
theorem ggX8_empty_X7_clear : GoodIn wsX8_empty wsX7_clear := goodIn_r _ [26, 22, 27, 36, 37, 38] (by decide +kernel) (by decide +kernel)
set_option maxRecDepth 20000 in
theorem gX8_empty_X7_clear : GoodIn wsX8_empty (wsV RX8 76 RX7 yX7_clear wsX7_clear) := goodIn_app (goodIn_of _ (by decide +kernel)) ggX8_empty_X7_clear
theorem dX8_empty_0 : decode cX8_empty 0 = .ok (.aload_n 0, 1) := by decide +kernel
theorem dX8_empty_1 : decode cX8_empty 1 = .ok (.iload_n 1, 1) := by decide +kernel
theorem dX8_empty_2 : decode cX8_empty 2 = .ok (.iload_n 2, 1) := by decide +kernel
theorem dX8_empty_3 : decode cX8_empty 3 = .ok (.invokevirtual 59, 3) := by decide +kernel
theorem dX8_empty_6 : decode cX8_empty 6 = .ok (.astore_n 3, 1) := by decide +kernel
theorem dX8_empty_7 : decode cX8_empty 7 = .ok (.aload_n 3, 1) := by decide +kernel
theorem dX8_empty_8 : decode cX8_empty 8 = .ok (.ifnonnull 5, 3) := by decide +kernel
theorem dX8_empty_11 : decode cX8_empty 11 = .ok (.iconst (-1), 1) := by decide +kernel
theorem dX8_empty_12 : decode cX8_empty 12 = .ok (.ireturn, 1) := by decide +kernel
theorem dX8_empty_13 : decode cX8_empty 13 = .ok (.aload_n 3, 1) := by decide +kernel
theorem dX8_empty_14 : decode cX8_empty 14 = .ok (.invokevirtual 68, 3) := by decide +kernel
theorem dX8_empty_17 : decode cX8_empty 17 = .ok (.istore 4, 2) := by decide +kernel
theorem dX8_empty_19 : decode cX8_empty 19 = .ok (.aload_n 3, 1) := by decide +kernel
theorem dX8_empty_20 : decode cX8_empty 20 = .ok (.iconst 1, 1) := by decide +kernel
theorem dX8_empty_21 : decode cX8_empty 21 = .ok (.invokevirtual 76, 3) := by decide +kernel
theorem dX8_empty_24 : decode cX8_empty 24 = .ok (.iload 4, 2) := by decide +kernel
theorem dX8_empty_26 : decode cX8_empty 26 = .ok (.ireturn, 1) := by decide +kernel
set_option maxRecDepth 20000 in
theorem ggX8_drop_X8_rowOf : GoodIn wsX8_drop wsX8_rowOf := goodIn_r _ [5, 6, 7, 8, 4, 9, 10, 11, 12, 13, 14, 15, 16, 17, 18, 19, 20, 21, 22, 23, 24, 25, 26, 32, 33, 34, 35, 36, 37, 38, 39, 40, 41, 42] (by decide +kernel) (by decide +kernel)
set_option maxRecDepth 20000 in
theorem gX8_drop_X8_rowOf : GoodIn wsX8_drop (wsV RX8 80 RX8 yX8_rowOf wsX8_rowOf) := goodIn_app (goodIn_of _ (by decide +kernel)) ggX8_drop_X8_rowOf
set_option maxRecDepth 20000 in
theorem ggX8_drop_X7_clear : GoodIn wsX8_drop wsX7_clear := goodIn_r _ [30, 31, 26, 40, 41, 42] (by decide +kernel) (by decide +kernel)
set_option maxRecDepth 20000 in
theorem gX8_drop_X7_clear : GoodIn wsX8_drop (wsV RX8 76 RX7 yX7_clear wsX7_clear) := goodIn_app (goodIn_of _ (by decide +kernel)) ggX8_drop_X7_clear
theorem dX8_drop_0 : decode cX8_drop 0 = .ok (.aload_n 0, 1) := by decide +kernel
theorem dX8_drop_1 : decode cX8_drop 1 = .ok (.iload_n 1, 1) := by decide +kernel
theorem dX8_drop_2 : decode cX8_drop 2 = .ok (.iload_n 2, 1) := by decide +kernel
theorem dX8_drop_3 : decode cX8_drop 3 = .ok (.invokevirtual 80, 3) := by decide +kernel
theorem dX8_drop_6 : decode cX8_drop 6 = .ok (.astore_n 3, 1) := by decide +kernel
theorem dX8_drop_7 : decode cX8_drop 7 = .ok (.aload_n 3, 1) := by decide +kernel
theorem dX8_drop_8 : decode cX8_drop 8 = .ok (.ifnonnull 5, 3) := by decide +kernel
theorem dX8_drop_11 : decode cX8_drop 11 = .ok (.iconst (-1), 1) := by decide +kernel
theorem dX8_drop_12 : decode cX8_drop 12 = .ok (.ireturn, 1) := by decide +kernel
theorem dX8_drop_13 : decode cX8_drop 13 = .ok (.aload_n 3, 1) := by decide +kernel
theorem dX8_drop_14 : decode cX8_drop 14 = .ok (.iconst 0, 1) := by decide +kernel
theorem dX8_drop_15 : decode cX8_drop 15 = .ok (.invokevirtual 76, 3) := by decide +kernel
theorem dX8_drop_18 : decode cX8_drop 18 = .ok (.iconst 1, 1) := by decide +kernel
theorem dX8_drop_19 : decode cX8_drop 19 = .ok (.ireturn, 1) := by decide +kernel
set_option maxRecDepth 20000 in
theorem ggX8_at_X8_rowOf : GoodIn wsX8_at wsX8_rowOf := goodIn_r _ [5, 6, 7, 8, 4, 9, 10, 11, 12, 13, 14, 15, 16, 17, 18, 19, 20, 21, 22, 23, 24, 25, 26, 33, 34, 35, 36, 37, 38, 39, 40, 41, 42, 43] (by decide +kernel) (by decide +kernel)
set_option maxRecDepth 20000 in
theorem gX8_at_X8_rowOf : GoodIn wsX8_at (wsV RX8 80 RX8 yX8_rowOf wsX8_rowOf) := goodIn_app (goodIn_of _ (by decide +kernel)) ggX8_at_X8_rowOf
set_option maxRecDepth 20000 in
theorem ggX8_at_X7_documentAt : GoodIn wsX8_at wsX7_documentAt := goodIn_r _ [30, 31, 32, 41, 42, 43] (by decide +kernel) (by decide +kernel)
set_option maxRecDepth 20000 in
theorem gX8_at_X7_documentAt : GoodIn wsX8_at (wsV RX8 83 RX7 yX7_documentAt wsX7_documentAt) := goodIn_app (goodIn_of _ (by decide +kernel)) ggX8_at_X7_documentAt
theorem dX8_at_0 : decode cX8_at 0 = .ok (.aload_n 0, 1) := by decide +kernel
theorem dX8_at_1 : decode cX8_at 1 = .ok (.iload_n 1, 1) := by decide +kernel
theorem dX8_at_2 : decode cX8_at 2 = .ok (.iload_n 2, 1) := by decide +kernel
theorem dX8_at_3 : decode cX8_at 3 = .ok (.invokevirtual 80, 3) := by decide +kernel
theorem dX8_at_6 : decode cX8_at 6 = .ok (.astore 4, 2) := by decide +kernel
theorem dX8_at_8 : decode cX8_at 8 = .ok (.aload 4, 2) := by decide +kernel
theorem dX8_at_10 : decode cX8_at 10 = .ok (.ifnonnull 5, 3) := by decide +kernel
theorem dX8_at_13 : decode cX8_at 13 = .ok (.iconst (-1), 1) := by decide +kernel
theorem dX8_at_14 : decode cX8_at 14 = .ok (.ireturn, 1) := by decide +kernel
theorem dX8_at_15 : decode cX8_at 15 = .ok (.aload 4, 2) := by decide +kernel
theorem dX8_at_17 : decode cX8_at 17 = .ok (.iload_n 3, 1) := by decide +kernel
theorem dX8_at_18 : decode cX8_at 18 = .ok (.invokevirtual 83, 3) := by decide +kernel
theorem dX8_at_21 : decode cX8_at 21 = .ok (.istore 5, 2) := by decide +kernel
theorem dX8_at_23 : decode cX8_at 23 = .ok (.iload 5, 2) := by decide +kernel
theorem dX8_at_25 : decode cX8_at 25 = .ok (.iconst (-1), 1) := by decide +kernel
theorem dX8_at_26 : decode cX8_at 26 = .ok (.if_icmp .ne 8, 3) := by decide +kernel
theorem dX8_at_29 : decode cX8_at 29 = .ok (.bipush (-2), 2) := by decide +kernel
theorem dX8_at_31 : decode cX8_at 31 = .ok (.goto 5, 3) := by decide +kernel
theorem dX8_at_34 : decode cX8_at 34 = .ok (.iload 5, 2) := by decide +kernel
theorem dX8_at_36 : decode cX8_at 36 = .ok (.ireturn, 1) := by decide +kernel
set_option maxRecDepth 20000 in
theorem ggX8_count_X8_questionOf : GoodIn wsX8_count wsX8_questionOf := goodIn_r _ [5, 6, 28, 29, 30, 31, 32, 33] (by decide +kernel) (by decide +kernel)
set_option maxRecDepth 20000 in
theorem gX8_count_X8_questionOf : GoodIn wsX8_count (wsV RX8 43 RX8 yX8_questionOf wsX8_questionOf) := goodIn_app (goodIn_of _ (by decide +kernel)) ggX8_count_X8_questionOf
set_option maxRecDepth 20000 in
theorem ggX8_count_X6_goodOnes : GoodIn wsX8_count wsX6_goodOnes := goodIn_r _ [11, 12, 34, 35] (by decide +kernel) (by decide +kernel)
set_option maxRecDepth 20000 in
theorem gX8_count_X6_goodOnes : GoodIn wsX8_count (wsV RX8 86 RX6 yX6_goodOnes wsX6_goodOnes) := goodIn_app (goodIn_of _ (by decide +kernel)) ggX8_count_X6_goodOnes
set_option maxRecDepth 20000 in
theorem ggX8_count_X6_gradedWith : GoodIn wsX8_count wsX6_gradedWith := goodIn_r _ [16, 12, 34, 35] (by decide +kernel) (by decide +kernel)
set_option maxRecDepth 20000 in
theorem gX8_count_X6_gradedWith : GoodIn wsX8_count (wsV RX8 89 RX6 yX6_gradedWith wsX6_gradedWith) := goodIn_app (goodIn_of _ (by decide +kernel)) ggX8_count_X6_gradedWith
set_option maxRecDepth 20000 in
theorem ggX8_count_X6_toldRows : GoodIn wsX8_count wsX6_toldRows := goodIn_r _ [20, 21, 22, 23, 24, 25, 26, 27, 34, 35, 36, 37, 38] (by decide +kernel) (by decide +kernel)
set_option maxRecDepth 20000 in
theorem gX8_count_X6_toldRows : GoodIn wsX8_count (wsV RX8 92 RX6 yX6_toldRows wsX6_toldRows) := goodIn_app (goodIn_of _ (by decide +kernel)) ggX8_count_X6_toldRows
theorem dX8_count_0 : decode cX8_count 0 = .ok (.aload_n 0, 1) := by decide +kernel
theorem dX8_count_1 : decode cX8_count 1 = .ok (.iload_n 1, 1) := by decide +kernel
theorem dX8_count_2 : decode cX8_count 2 = .ok (.invokevirtual 43, 3) := by decide +kernel
theorem dX8_count_5 : decode cX8_count 5 = .ok (.astore_n 3, 1) := by decide +kernel
theorem dX8_count_6 : decode cX8_count 6 = .ok (.aload_n 3, 1) := by decide +kernel
theorem dX8_count_7 : decode cX8_count 7 = .ok (.ifnonnull 5, 3) := by decide +kernel
theorem dX8_count_10 : decode cX8_count 10 = .ok (.iconst (-1), 1) := by decide +kernel
theorem dX8_count_11 : decode cX8_count 11 = .ok (.ireturn, 1) := by decide +kernel
theorem dX8_count_12 : decode cX8_count 12 = .ok (.iload_n 2, 1) := by decide +kernel
theorem dX8_count_13 : decode cX8_count 13 = .ok (.tableswitch 43 0 2 #[27, 32, 38], 27) := by decide +kernel
theorem dX8_count_40 : decode cX8_count 40 = .ok (.aload_n 3, 1) := by decide +kernel
theorem dX8_count_41 : decode cX8_count 41 = .ok (.invokevirtual 86, 3) := by decide +kernel
theorem dX8_count_44 : decode cX8_count 44 = .ok (.ireturn, 1) := by decide +kernel
theorem dX8_count_45 : decode cX8_count 45 = .ok (.aload_n 3, 1) := by decide +kernel
theorem dX8_count_46 : decode cX8_count 46 = .ok (.iconst 0, 1) := by decide +kernel
theorem dX8_count_47 : decode cX8_count 47 = .ok (.invokevirtual 89, 3) := by decide +kernel
theorem dX8_count_50 : decode cX8_count 50 = .ok (.ireturn, 1) := by decide +kernel
theorem dX8_count_51 : decode cX8_count 51 = .ok (.aload_n 3, 1) := by decide +kernel
theorem dX8_count_52 : decode cX8_count 52 = .ok (.invokevirtual 92, 3) := by decide +kernel
theorem dX8_count_55 : decode cX8_count 55 = .ok (.ireturn, 1) := by decide +kernel
theorem dX8_count_56 : decode cX8_count 56 = .ok (.bipush (-2), 2) := by decide +kernel
theorem dX8_count_58 : decode cX8_count 58 = .ok (.ireturn, 1) := by decide +kernel
set_option maxRecDepth 20000 in
theorem ggX8_measure_X8_questionOf : GoodIn wsX8_measure wsX8_questionOf := goodIn_r _ [6, 7, 110, 111, 112, 113, 114, 115] (by decide +kernel) (by decide +kernel)
set_option maxRecDepth 20000 in
theorem gX8_measure_X8_questionOf : GoodIn wsX8_measure (wsV RX8 43 RX8 yX8_questionOf wsX8_questionOf) := goodIn_app (goodIn_of _ (by decide +kernel)) ggX8_measure_X8_questionOf
set_option maxRecDepth 20000 in
theorem ggX8_measure_X8_rowOf : GoodIn wsX8_measure wsX8_rowOf := goodIn_r _ [11, 12, 13, 14, 5, 15, 2, 3, 4, 6, 7, 16, 17, 18, 19, 20, 21, 22, 23, 24, 25, 26, 27, 110, 111, 112, 113, 114, 115, 116, 117, 118, 119, 120] (by decide +kernel) (by decide +kernel)
set_option maxRecDepth 20000 in
theorem gX8_measure_X8_rowOf : GoodIn wsX8_measure (wsV RX8 80 RX8 yX8_rowOf wsX8_rowOf) := goodIn_app (goodIn_of _ (by decide +kernel)) ggX8_measure_X8_rowOf
set_option maxRecDepth 20000 in
theorem ggX8_measure_X8_isMeasure : GoodIn wsX8_measure wsX8_isMeasure := goodIn_r _ [30] (by decide +kernel) (by decide +kernel)
set_option maxRecDepth 20000 in
theorem gX8_measure_X8_isMeasure : GoodIn wsX8_measure (va_wsS RX8 95 yX8_isMeasure wsX8_isMeasure) := goodIn_app (goodIn_of _ (by decide +kernel)) ggX8_measure_X8_isMeasure
set_option maxRecDepth 20000 in
theorem ggX8_measure_X8_isDepth : GoodIn wsX8_measure wsX8_isDepth := goodIn_r _ [33] (by decide +kernel) (by decide +kernel)
set_option maxRecDepth 20000 in
theorem gX8_measure_X8_isDepth : GoodIn wsX8_measure (va_wsS RX8 98 yX8_isDepth wsX8_isDepth) := goodIn_app (goodIn_of _ (by decide +kernel)) ggX8_measure_X8_isDepth
set_option maxRecDepth 20000 in
theorem ggX8_measure_X3_put : GoodIn wsX8_measure wsX3_put := goodIn_r _ [37, 38, 39, 40, 41, 42, 43, 44, 36, 45, 46, 47, 48, 25, 49, 50, 51, 52, 53, 54, 19, 55, 56, 57, 58, 59, 60, 61, 62, 63, 64, 65, 66, 67, 68, 5, 69, 70, 71, 72, 73, 74, 75, 76, 77, 78, 79, 80, 81, 82, 83, 84, 85, 86, 87, 88, 89, 90, 91, 92, 93, 94, 95, 96, 97, 98, 99, 100, 101, 102, 103, 104, 105, 106, 107, 108, 109, 118, 119, 120, 116, 117, 121, 122] (by decide +kernel) (by decide +kernel)
set_option maxRecDepth 20000 in
theorem gX8_measure_X3_put : GoodIn wsX8_measure (va_wsS RX8 101 yX3_put wsX3_put) := goodIn_app (goodIn_of _ (by decide +kernel)) ggX8_measure_X3_put
theorem dX8_measure_0 : decode cX8_measure 0 = .ok (.aload_n 0, 1) := by decide +kernel
theorem dX8_measure_1 : decode cX8_measure 1 = .ok (.iload_n 2, 1) := by decide +kernel
theorem dX8_measure_2 : decode cX8_measure 2 = .ok (.invokevirtual 43, 3) := by decide +kernel
theorem dX8_measure_5 : decode cX8_measure 5 = .ok (.astore 5, 2) := by decide +kernel
theorem dX8_measure_7 : decode cX8_measure 7 = .ok (.aload_n 0, 1) := by decide +kernel
theorem dX8_measure_8 : decode cX8_measure 8 = .ok (.iload_n 1, 1) := by decide +kernel
theorem dX8_measure_9 : decode cX8_measure 9 = .ok (.iload_n 2, 1) := by decide +kernel
theorem dX8_measure_10 : decode cX8_measure 10 = .ok (.invokevirtual 80, 3) := by decide +kernel
theorem dX8_measure_13 : decode cX8_measure 13 = .ok (.astore 6, 2) := by decide +kernel
theorem dX8_measure_15 : decode cX8_measure 15 = .ok (.aload 5, 2) := by decide +kernel
theorem dX8_measure_17 : decode cX8_measure 17 = .ok (.ifnull 8, 3) := by decide +kernel
theorem dX8_measure_20 : decode cX8_measure 20 = .ok (.aload 6, 2) := by decide +kernel
theorem dX8_measure_22 : decode cX8_measure 22 = .ok (.ifnonnull 5, 3) := by decide +kernel
theorem dX8_measure_25 : decode cX8_measure 25 = .ok (.iconst (-1), 1) := by decide +kernel
theorem dX8_measure_26 : decode cX8_measure 26 = .ok (.ireturn, 1) := by decide +kernel
theorem dX8_measure_27 : decode cX8_measure 27 = .ok (.iload_n 3, 1) := by decide +kernel
theorem dX8_measure_28 : decode cX8_measure 28 = .ok (.invokestatic 95, 3) := by decide +kernel
theorem dX8_measure_31 : decode cX8_measure 31 = .ok (.ifCond .eq 11, 3) := by decide +kernel
theorem dX8_measure_34 : decode cX8_measure 34 = .ok (.iload 4, 2) := by decide +kernel
theorem dX8_measure_36 : decode cX8_measure 36 = .ok (.invokestatic 98, 3) := by decide +kernel
theorem dX8_measure_39 : decode cX8_measure 39 = .ok (.ifCond .ne 6, 3) := by decide +kernel
theorem dX8_measure_42 : decode cX8_measure 42 = .ok (.bipush (-2), 2) := by decide +kernel
theorem dX8_measure_44 : decode cX8_measure 44 = .ok (.ireturn, 1) := by decide +kernel
theorem dX8_measure_45 : decode cX8_measure 45 = .ok (.aload_n 0, 1) := by decide +kernel
theorem dX8_measure_46 : decode cX8_measure 46 = .ok (.getfield 18, 3) := by decide +kernel
theorem dX8_measure_49 : decode cX8_measure 49 = .ok (.aload 5, 2) := by decide +kernel
theorem dX8_measure_51 : decode cX8_measure 51 = .ok (.aload 6, 2) := by decide +kernel
theorem dX8_measure_53 : decode cX8_measure 53 = .ok (.iload_n 3, 1) := by decide +kernel
theorem dX8_measure_54 : decode cX8_measure 54 = .ok (.iload 4, 2) := by decide +kernel
theorem dX8_measure_56 : decode cX8_measure 56 = .ok (.invokestatic 101, 3) := by decide +kernel
theorem dX8_measure_59 : decode cX8_measure 59 = .ok (.iconst 1, 1) := by decide +kernel
theorem dX8_measure_60 : decode cX8_measure 60 = .ok (.ireturn, 1) := by decide +kernel
set_option maxRecDepth 20000 in
theorem ggX8_top_X1_above : GoodIn wsX8_top wsX1_above := goodIn_r _ [6, 7, 14, 15] (by decide +kernel) (by decide +kernel)
set_option maxRecDepth 20000 in
theorem gX8_top_X1_above : GoodIn wsX8_top (wsV RX8 107 RX1 yX1_above wsX1_above) := goodIn_app (goodIn_of _ (by decide +kernel)) ggX8_top_X1_above
theorem dX8_top_0 : decode cX8_top 0 = .ok (.aload_n 0, 1) := by decide +kernel
theorem dX8_top_1 : decode cX8_top 1 = .ok (.getfield 18, 3) := by decide +kernel
theorem dX8_top_4 : decode cX8_top 4 = .ok (.invokevirtual 107, 3) := by decide +kernel
theorem dX8_top_7 : decode cX8_top 7 = .ok (.lreturn, 1) := by decide +kernel
set_option maxRecDepth 20000 in
theorem ggX8_bottom_X1_below : GoodIn wsX8_bottom wsX1_below := goodIn_r _ [6, 7, 14, 15] (by decide +kernel) (by decide +kernel)
set_option maxRecDepth 20000 in
theorem gX8_bottom_X1_below : GoodIn wsX8_bottom (wsV RX8 111 RX1 yX1_below wsX1_below) := goodIn_app (goodIn_of _ (by decide +kernel)) ggX8_bottom_X1_below
theorem dX8_bottom_0 : decode cX8_bottom 0 = .ok (.aload_n 0, 1) := by decide +kernel
theorem dX8_bottom_1 : decode cX8_bottom 1 = .ok (.getfield 18, 3) := by decide +kernel
theorem dX8_bottom_4 : decode cX8_bottom 4 = .ok (.invokevirtual 111, 3) := by decide +kernel
theorem dX8_bottom_7 : decode cX8_bottom 7 = .ok (.lreturn, 1) := by decide +kernel
set_option maxRecDepth 20000 in
theorem ggX8_gain_X8_questionOf : GoodIn wsX8_gain wsX8_questionOf := goodIn_r _ [7, 8, 60, 61, 62, 63, 64, 65] (by decide +kernel) (by decide +kernel)
set_option maxRecDepth 20000 in
theorem gX8_gain_X8_questionOf : GoodIn wsX8_gain (wsV RX8 43 RX8 yX8_questionOf wsX8_questionOf) := goodIn_app (goodIn_of _ (by decide +kernel)) ggX8_gain_X8_questionOf
set_option maxRecDepth 20000 in
theorem ggX8_gain_X8_rowOf : GoodIn wsX8_gain wsX8_rowOf := goodIn_r _ [12, 13, 14, 15, 6, 16, 3, 4, 5, 7, 8, 17, 18, 19, 20, 21, 22, 23, 24, 25, 26, 27, 28, 60, 61, 62, 63, 64, 65, 66, 67, 68, 69, 70] (by decide +kernel) (by decide +kernel)
set_option maxRecDepth 20000 in
theorem gX8_gain_X8_rowOf : GoodIn wsX8_gain (wsV RX8 80 RX8 yX8_rowOf wsX8_rowOf) := goodIn_app (goodIn_of _ (by decide +kernel)) ggX8_gain_X8_rowOf
set_option maxRecDepth 20000 in
theorem ggX8_gain_X8_isDepth : GoodIn wsX8_gain wsX8_isDepth := goodIn_r _ [31] (by decide +kernel) (by decide +kernel)
set_option maxRecDepth 20000 in
theorem gX8_gain_X8_isDepth : GoodIn wsX8_gain (va_wsS RX8 98 yX8_isDepth wsX8_isDepth) := goodIn_app (goodIn_of _ (by decide +kernel)) ggX8_gain_X8_isDepth
set_option maxRecDepth 20000 in
theorem ggX8_gain_X2_gainOf : GoodIn wsX8_gain wsX2_gainOf := goodIn_r _ [35, 36, 37, 38, 26, 39, 40, 41, 42, 43, 44, 20, 45, 46, 47, 48, 49, 50, 51, 52, 34, 53, 54, 55, 56, 57, 58, 59, 68, 69, 70, 66, 67] (by decide +kernel) (by decide +kernel)
set_option maxRecDepth 20000 in
theorem gX8_gain_X2_gainOf : GoodIn wsX8_gain (va_wsS RX8 118 yX2_gainOf wsX2_gainOf) := goodIn_app (goodIn_of _ (by decide +kernel)) ggX8_gain_X2_gainOf
theorem dX8_gain_0 : decode cX8_gain 0 = .ok (.aload_n 0, 1) := by decide +kernel
theorem dX8_gain_1 : decode cX8_gain 1 = .ok (.iload_n 2, 1) := by decide +kernel
theorem dX8_gain_2 : decode cX8_gain 2 = .ok (.invokevirtual 43, 3) := by decide +kernel
theorem dX8_gain_5 : decode cX8_gain 5 = .ok (.astore 5, 2) := by decide +kernel
theorem dX8_gain_7 : decode cX8_gain 7 = .ok (.aload_n 0, 1) := by decide +kernel
theorem dX8_gain_8 : decode cX8_gain 8 = .ok (.iload_n 1, 1) := by decide +kernel
theorem dX8_gain_9 : decode cX8_gain 9 = .ok (.iload_n 2, 1) := by decide +kernel
theorem dX8_gain_10 : decode cX8_gain 10 = .ok (.invokevirtual 80, 3) := by decide +kernel
theorem dX8_gain_13 : decode cX8_gain 13 = .ok (.astore 6, 2) := by decide +kernel
theorem dX8_gain_15 : decode cX8_gain 15 = .ok (.aload 5, 2) := by decide +kernel
theorem dX8_gain_17 : decode cX8_gain 17 = .ok (.ifnull 8, 3) := by decide +kernel
theorem dX8_gain_20 : decode cX8_gain 20 = .ok (.aload 6, 2) := by decide +kernel
theorem dX8_gain_22 : decode cX8_gain 22 = .ok (.ifnonnull 7, 3) := by decide +kernel
theorem dX8_gain_25 : decode cX8_gain 25 = .ok (.ldc2_w 114, 3) := by decide +kernel
theorem dX8_gain_28 : decode cX8_gain 28 = .ok (.lreturn, 1) := by decide +kernel
theorem dX8_gain_29 : decode cX8_gain 29 = .ok (.iload_n 3, 1) := by decide +kernel
theorem dX8_gain_30 : decode cX8_gain 30 = .ok (.invokestatic 98, 3) := by decide +kernel
theorem dX8_gain_33 : decode cX8_gain 33 = .ok (.ifCond .ne 7, 3) := by decide +kernel
theorem dX8_gain_36 : decode cX8_gain 36 = .ok (.ldc2_w 116, 3) := by decide +kernel
theorem dX8_gain_39 : decode cX8_gain 39 = .ok (.lreturn, 1) := by decide +kernel
theorem dX8_gain_40 : decode cX8_gain 40 = .ok (.aload 5, 2) := by decide +kernel
theorem dX8_gain_42 : decode cX8_gain 42 = .ok (.aload 6, 2) := by decide +kernel
theorem dX8_gain_44 : decode cX8_gain 44 = .ok (.iload_n 3, 1) := by decide +kernel
theorem dX8_gain_45 : decode cX8_gain 45 = .ok (.iload 4, 2) := by decide +kernel
theorem dX8_gain_47 : decode cX8_gain 47 = .ok (.invokestatic 118, 3) := by decide +kernel
theorem dX8_gain_50 : decode cX8_gain 50 = .ok (.lreturn, 1) := by decide +kernel
set_option maxRecDepth 20000 in
theorem ggX8_mean_X8_isRanker : GoodIn wsX8_mean wsX8_isRanker := goodIn_r _ [6] (by decide +kernel) (by decide +kernel)
set_option maxRecDepth 20000 in
theorem gX8_mean_X8_isRanker : GoodIn wsX8_mean (va_wsS RX8 124 yX8_isRanker wsX8_isRanker) := goodIn_app (goodIn_of _ (by decide +kernel)) ggX8_mean_X8_isRanker
set_option maxRecDepth 20000 in
theorem ggX8_mean_X8_hasMean : GoodIn wsX8_mean wsX8_hasMean := goodIn_r _ [9, 10, 11, 5, 12] (by decide +kernel) (by decide +kernel)
set_option maxRecDepth 20000 in
theorem gX8_mean_X8_hasMean : GoodIn wsX8_mean (va_wsS RX8 127 yX8_hasMean wsX8_hasMean) := goodIn_app (goodIn_of _ (by decide +kernel)) ggX8_mean_X8_hasMean
set_option maxRecDepth 20000 in
theorem ggX8_mean_X8_isDepth : GoodIn wsX8_mean wsX8_isDepth := goodIn_r _ [15] (by decide +kernel) (by decide +kernel)
set_option maxRecDepth 20000 in
theorem gX8_mean_X8_isDepth : GoodIn wsX8_mean (va_wsS RX8 98 yX8_isDepth wsX8_isDepth) := goodIn_app (goodIn_of _ (by decide +kernel)) ggX8_mean_X8_isDepth
set_option maxRecDepth 20000 in
theorem ggX8_mean_X8_addUp : GoodIn wsX8_mean wsX8_addUp := goodIn_r _ [19, 2, 20, 21, 22, 23, 24, 25, 26, 27, 28, 5, 29, 30, 31, 32, 33, 34, 35, 36, 37, 38, 39, 40, 41, 42, 43, 44, 45, 46, 47, 48, 49, 50, 51, 52, 53, 54, 55, 56, 57, 58, 59, 60, 61, 62, 63, 64, 65, 66, 67, 68, 69, 70, 71, 72, 73, 74, 75, 76, 77, 78, 79, 80, 81, 82, 83, 84, 85, 86, 87, 88, 89, 90, 91, 92, 93, 94, 95, 96, 97, 98, 99, 100, 101, 102, 103, 104, 105, 106, 107, 108, 109, 110, 111, 112, 113, 114, 115, 116, 117, 118, 119, 120, 121, 122, 123, 124, 125, 126, 127, 128, 129, 130, 131, 132, 133, 134, 135, 144, 145, 146, 147, 148, 149, 150, 151, 152, 153, 154, 155, 156] (by decide +kernel) (by decide +kernel)
set_option maxRecDepth 20000 in
theorem gX8_mean_X8_addUp : GoodIn wsX8_mean (wsV RX8 130 RX8 yX8_addUp wsX8_addUp) := goodIn_app (goodIn_of _ (by decide +kernel)) ggX8_mean_X8_addUp
set_option maxRecDepth 20000 in
theorem ggX8_mean_X1_above : GoodIn wsX8_mean wsX1_above := goodIn_r _ [139, 26, 150, 151] (by decide +kernel) (by decide +kernel)
set_option maxRecDepth 20000 in
theorem gX8_mean_X1_above : GoodIn wsX8_mean (wsV RX8 107 RX1 yX1_above wsX1_above) := goodIn_app (goodIn_of _ (by decide +kernel)) ggX8_mean_X1_above
set_option maxRecDepth 20000 in
theorem ggX8_mean_X1_below : GoodIn wsX8_mean wsX1_below := goodIn_r _ [143, 27, 150, 151] (by decide +kernel) (by decide +kernel)
set_option maxRecDepth 20000 in
theorem gX8_mean_X1_below : GoodIn wsX8_mean (wsV RX8 111 RX1 yX1_below wsX1_below) := goodIn_app (goodIn_of _ (by decide +kernel)) ggX8_mean_X1_below
set_option maxRecDepth 20000 in
theorem ggX8_mean_X1_become : GoodIn wsX8_mean wsX1_become := goodIn_r _ [25, 26, 27, 28, 5, 29, 30, 31, 32, 33, 34, 35, 36, 150, 151] (by decide +kernel) (by decide +kernel)
set_option maxRecDepth 20000 in
theorem gX8_mean_X1_become : GoodIn wsX8_mean (wsV RX8 134 RX1 yX1_become wsX1_become) := goodIn_app (goodIn_of _ (by decide +kernel)) ggX8_mean_X1_become
theorem dX8_mean_0 : decode cX8_mean 0 = .ok (.iload_n 1, 1) := by decide +kernel
theorem dX8_mean_1 : decode cX8_mean 1 = .ok (.invokestatic 124, 3) := by decide +kernel
theorem dX8_mean_4 : decode cX8_mean 4 = .ok (.ifCond .ne 5, 3) := by decide +kernel
theorem dX8_mean_7 : decode cX8_mean 7 = .ok (.iconst (-1), 1) := by decide +kernel
theorem dX8_mean_8 : decode cX8_mean 8 = .ok (.ireturn, 1) := by decide +kernel
theorem dX8_mean_9 : decode cX8_mean 9 = .ok (.iload_n 2, 1) := by decide +kernel
theorem dX8_mean_10 : decode cX8_mean 10 = .ok (.invokestatic 127, 3) := by decide +kernel
theorem dX8_mean_13 : decode cX8_mean 13 = .ok (.ifCond .eq 10, 3) := by decide +kernel
theorem dX8_mean_16 : decode cX8_mean 16 = .ok (.iload_n 3, 1) := by decide +kernel
theorem dX8_mean_17 : decode cX8_mean 17 = .ok (.invokestatic 98, 3) := by decide +kernel
theorem dX8_mean_20 : decode cX8_mean 20 = .ok (.ifCond .ne 6, 3) := by decide +kernel
theorem dX8_mean_23 : decode cX8_mean 23 = .ok (.bipush (-2), 2) := by decide +kernel
theorem dX8_mean_25 : decode cX8_mean 25 = .ok (.ireturn, 1) := by decide +kernel
theorem dX8_mean_26 : decode cX8_mean 26 = .ok (.aload_n 0, 1) := by decide +kernel
theorem dX8_mean_27 : decode cX8_mean 27 = .ok (.iload_n 1, 1) := by decide +kernel
theorem dX8_mean_28 : decode cX8_mean 28 = .ok (.iload_n 2, 1) := by decide +kernel
theorem dX8_mean_29 : decode cX8_mean 29 = .ok (.iload_n 3, 1) := by decide +kernel
theorem dX8_mean_30 : decode cX8_mean 30 = .ok (.invokevirtual 130, 3) := by decide +kernel
theorem dX8_mean_33 : decode cX8_mean 33 = .ok (.istore 4, 2) := by decide +kernel
theorem dX8_mean_35 : decode cX8_mean 35 = .ok (.iload 4, 2) := by decide +kernel
theorem dX8_mean_37 : decode cX8_mean 37 = .ok (.ifCond .ne 6, 3) := by decide +kernel
theorem dX8_mean_40 : decode cX8_mean 40 = .ok (.bipush (-3), 2) := by decide +kernel
theorem dX8_mean_42 : decode cX8_mean 42 = .ok (.ireturn, 1) := by decide +kernel
theorem dX8_mean_43 : decode cX8_mean 43 = .ok (.aload_n 0, 1) := by decide +kernel
theorem dX8_mean_44 : decode cX8_mean 44 = .ok (.getfield 18, 3) := by decide +kernel
theorem dX8_mean_47 : decode cX8_mean 47 = .ok (.aload_n 0, 1) := by decide +kernel
theorem dX8_mean_48 : decode cX8_mean 48 = .ok (.getfield 25, 3) := by decide +kernel
theorem dX8_mean_51 : decode cX8_mean 51 = .ok (.invokevirtual 107, 3) := by decide +kernel
theorem dX8_mean_54 : decode cX8_mean 54 = .ok (.aload_n 0, 1) := by decide +kernel
theorem dX8_mean_55 : decode cX8_mean 55 = .ok (.getfield 25, 3) := by decide +kernel
theorem dX8_mean_58 : decode cX8_mean 58 = .ok (.invokevirtual 111, 3) := by decide +kernel
theorem dX8_mean_61 : decode cX8_mean 61 = .ok (.iload 4, 2) := by decide +kernel
theorem dX8_mean_63 : decode cX8_mean 63 = .ok (.i2l, 1) := by decide +kernel
theorem dX8_mean_64 : decode cX8_mean 64 = .ok (.lmul, 1) := by decide +kernel
theorem dX8_mean_65 : decode cX8_mean 65 = .ok (.invokevirtual 134, 3) := by decide +kernel
theorem dX8_mean_68 : decode cX8_mean 68 = .ok (.iload 4, 2) := by decide +kernel
theorem dX8_mean_70 : decode cX8_mean 70 = .ok (.ireturn, 1) := by decide +kernel
set_option maxRecDepth 20000 in
theorem ggX8_odds_X8_meet : GoodIn wsX8_odds wsX8_meet := goodIn_r _ [7, 2, 8, 9, 10, 11, 12, 6, 13, 14, 15, 16, 17, 18, 19, 20, 21, 22, 23, 24, 25, 26, 27, 28, 29, 30, 31, 32, 33, 34, 35, 36, 37, 38, 39, 40, 41, 42, 43, 44, 45, 46, 47, 48, 49, 50, 51, 52, 53, 54, 55, 56, 57, 58, 59, 60, 61, 62, 63, 64, 65, 66, 67, 68, 69, 70, 71, 72, 73, 74, 75, 76, 77, 78, 79, 80, 81, 82, 83, 84, 85, 86, 87, 88, 89, 90, 91, 92, 93, 94, 95, 96, 97, 98, 99, 100, 101, 102, 103, 104, 105, 106, 107, 108, 109, 110, 111, 112, 113, 114, 115, 116, 117, 118, 119, 120, 121, 122, 123, 124, 125, 126, 127, 128, 129, 130, 131, 132, 133, 134, 135, 136, 137, 138, 139, 140, 141, 142, 143, 144, 145, 146, 147, 148, 149, 150, 151, 152, 153, 154, 155, 156, 157, 158, 159, 160, 170, 171, 172, 173, 174, 175, 176, 177, 178, 179, 180, 181, 182, 183, 184, 185] (by decide +kernel) (by decide +kernel)
set_option maxRecDepth 20000 in
theorem gX8_odds_X8_meet : GoodIn wsX8_odds (wsV RX8 138 RX8 yX8_meet wsX8_meet) := goodIn_app (goodIn_of _ (by decide +kernel)) ggX8_odds_X8_meet
set_option maxRecDepth 20000 in
theorem ggX8_odds_X0_waysAsFarApart : GoodIn wsX8_odds wsX0_waysAsFarApart := goodIn_r _ [164, 29, 148, 165, 100, 71, 101, 166, 167, 26, 168, 176, 177, 178] (by decide +kernel) (by decide +kernel)
set_option maxRecDepth 20000 in
theorem gX8_odds_X0_waysAsFarApart : GoodIn wsX8_odds (wsV RX8 142 RX0 yX0_waysAsFarApart wsX0_waysAsFarApart) := goodIn_app (goodIn_of _ (by decide +kernel)) ggX8_odds_X0_waysAsFarApart
set_option maxRecDepth 20000 in
theorem ggX8_odds_X1_become : GoodIn wsX8_odds wsX1_become := goodIn_r _ [94, 95, 96, 97, 6, 98, 99, 100, 71, 101, 102, 103, 104, 184, 185] (by decide +kernel) (by decide +kernel)
set_option maxRecDepth 20000 in
theorem gX8_odds_X1_become : GoodIn wsX8_odds (wsV RX8 134 RX1 yX1_become wsX1_become) := goodIn_app (goodIn_of _ (by decide +kernel)) ggX8_odds_X1_become
theorem dX8_odds_0 : decode cX8_odds 0 = .ok (.aload_n 0, 1) := by decide +kernel
theorem dX8_odds_1 : decode cX8_odds 1 = .ok (.iload_n 1, 1) := by decide +kernel
theorem dX8_odds_2 : decode cX8_odds 2 = .ok (.iload_n 2, 1) := by decide +kernel
theorem dX8_odds_3 : decode cX8_odds 3 = .ok (.iload_n 3, 1) := by decide +kernel
theorem dX8_odds_4 : decode cX8_odds 4 = .ok (.iload 4, 2) := by decide +kernel
theorem dX8_odds_6 : decode cX8_odds 6 = .ok (.invokevirtual 138, 3) := by decide +kernel
theorem dX8_odds_9 : decode cX8_odds 9 = .ok (.istore 5, 2) := by decide +kernel
theorem dX8_odds_11 : decode cX8_odds 11 = .ok (.iload 5, 2) := by decide +kernel
theorem dX8_odds_13 : decode cX8_odds 13 = .ok (.ifCond .le 21, 3) := by decide +kernel
theorem dX8_odds_16 : decode cX8_odds 16 = .ok (.aload_n 0, 1) := by decide +kernel
theorem dX8_odds_17 : decode cX8_odds 17 = .ok (.getfield 18, 3) := by decide +kernel
theorem dX8_odds_20 : decode cX8_odds 20 = .ok (.aload_n 0, 1) := by decide +kernel
theorem dX8_odds_21 : decode cX8_odds 21 = .ok (.getfield 31, 3) := by decide +kernel
theorem dX8_odds_24 : decode cX8_odds 24 = .ok (.invokevirtual 142, 3) := by decide +kernel
theorem dX8_odds_27 : decode cX8_odds 27 = .ok (.lconst 1, 1) := by decide +kernel
theorem dX8_odds_28 : decode cX8_odds 28 = .ok (.iload 5, 2) := by decide +kernel
theorem dX8_odds_30 : decode cX8_odds 30 = .ok (.lshl, 1) := by decide +kernel
theorem dX8_odds_31 : decode cX8_odds 31 = .ok (.invokevirtual 134, 3) := by decide +kernel
theorem dX8_odds_34 : decode cX8_odds 34 = .ok (.iload 5, 2) := by decide +kernel
theorem dX8_odds_36 : decode cX8_odds 36 = .ok (.ireturn, 1) := by decide +kernel
set_option maxRecDepth 20000 in
theorem ggX8_wins_X8_isRanker : GoodIn wsX8_wins wsX8_isRanker := goodIn_r _ [5] (by decide +kernel) (by decide +kernel)
set_option maxRecDepth 20000 in
theorem gX8_wins_X8_isRanker : GoodIn wsX8_wins (va_wsS RX8 124 yX8_isRanker wsX8_isRanker) := goodIn_app (goodIn_of _ (by decide +kernel)) ggX8_wins_X8_isRanker
set_option maxRecDepth 20000 in
theorem ggX8_wins_X8_meet : GoodIn wsX8_wins wsX8_meet := goodIn_r _ [9, 1, 10, 11, 12, 2, 3, 4, 5, 13, 14, 15, 16, 17, 18, 19, 20, 21, 22, 23, 24, 25, 26, 27, 28, 29, 30, 31, 32, 33, 34, 35, 36, 37, 38, 39, 40, 41, 42, 43, 44, 45, 46, 47, 48, 49, 50, 51, 52, 53, 54, 55, 56, 57, 58, 59, 60, 61, 62, 63, 64, 65, 66, 67, 68, 69, 70, 71, 72, 73, 74, 75, 76, 77, 78, 79, 80, 81, 82, 83, 84, 85, 86, 87, 88, 89, 90, 91, 92, 93, 94, 95, 96, 97, 98, 99, 100, 101, 102, 103, 104, 105, 106, 107, 108, 109, 110, 111, 112, 113, 114, 115, 116, 117, 118, 119, 120, 121, 122, 123, 124, 125, 126, 127, 128, 129, 130, 131, 132, 133, 134, 135, 136, 137, 138, 139, 140, 141, 142, 143, 144, 145, 146, 147, 148, 149, 150, 151, 152, 153, 154, 155, 156, 157, 158, 159, 168, 169, 170, 171, 172, 173, 174, 175, 176, 177, 178, 179, 180, 181, 182, 183] (by decide +kernel) (by decide +kernel)
set_option maxRecDepth 20000 in
theorem gX8_wins_X8_meet : GoodIn wsX8_wins (wsV RX8 138 RX8 yX8_meet wsX8_meet) := goodIn_app (goodIn_of _ (by decide +kernel)) ggX8_wins_X8_meet
set_option maxRecDepth 20000 in
theorem ggX8_wins_X0_differencesWithSign : GoodIn wsX8_wins wsX0_differencesWithSign := goodIn_r _ [163, 28, 147, 164, 165, 166, 167, 174, 175, 176] (by decide +kernel) (by decide +kernel)
set_option maxRecDepth 20000 in
theorem gX8_wins_X0_differencesWithSign : GoodIn wsX8_wins (wsV RX8 145 RX0 yX0_differencesWithSign wsX0_differencesWithSign) := goodIn_app (goodIn_of _ (by decide +kernel)) ggX8_wins_X0_differencesWithSign
theorem dX8_wins_0 : decode cX8_wins 0 = .ok (.iload_n 1, 1) := by decide +kernel
theorem dX8_wins_1 : decode cX8_wins 1 = .ok (.invokestatic 124, 3) := by decide +kernel
theorem dX8_wins_4 : decode cX8_wins 4 = .ok (.ifCond .eq 10, 3) := by decide +kernel
theorem dX8_wins_7 : decode cX8_wins 7 = .ok (.iload_n 2, 1) := by decide +kernel
theorem dX8_wins_8 : decode cX8_wins 8 = .ok (.invokestatic 124, 3) := by decide +kernel
theorem dX8_wins_11 : decode cX8_wins 11 = .ok (.ifCond .ne 5, 3) := by decide +kernel
theorem dX8_wins_14 : decode cX8_wins 14 = .ok (.iconst (-1), 1) := by decide +kernel
theorem dX8_wins_15 : decode cX8_wins 15 = .ok (.ireturn, 1) := by decide +kernel
theorem dX8_wins_16 : decode cX8_wins 16 = .ok (.iload 5, 2) := by decide +kernel
theorem dX8_wins_18 : decode cX8_wins 18 = .ok (.ifCond .lt 9, 3) := by decide +kernel
theorem dX8_wins_21 : decode cX8_wins 21 = .ok (.iload 5, 2) := by decide +kernel
theorem dX8_wins_23 : decode cX8_wins 23 = .ok (.iconst 2, 1) := by decide +kernel
theorem dX8_wins_24 : decode cX8_wins 24 = .ok (.if_icmp .le 6, 3) := by decide +kernel
theorem dX8_wins_27 : decode cX8_wins 27 = .ok (.bipush (-2), 2) := by decide +kernel
theorem dX8_wins_29 : decode cX8_wins 29 = .ok (.ireturn, 1) := by decide +kernel
theorem dX8_wins_30 : decode cX8_wins 30 = .ok (.aload_n 0, 1) := by decide +kernel
theorem dX8_wins_31 : decode cX8_wins 31 = .ok (.iload_n 1, 1) := by decide +kernel
theorem dX8_wins_32 : decode cX8_wins 32 = .ok (.iload_n 2, 1) := by decide +kernel
theorem dX8_wins_33 : decode cX8_wins 33 = .ok (.iload_n 3, 1) := by decide +kernel
theorem dX8_wins_34 : decode cX8_wins 34 = .ok (.iload 4, 2) := by decide +kernel
theorem dX8_wins_36 : decode cX8_wins 36 = .ok (.invokevirtual 138, 3) := by decide +kernel
theorem dX8_wins_39 : decode cX8_wins 39 = .ok (.istore 6, 2) := by decide +kernel
theorem dX8_wins_41 : decode cX8_wins 41 = .ok (.iload 6, 2) := by decide +kernel
theorem dX8_wins_43 : decode cX8_wins 43 = .ok (.ifCond .ge 6, 3) := by decide +kernel
theorem dX8_wins_46 : decode cX8_wins 46 = .ok (.iload 6, 2) := by decide +kernel
theorem dX8_wins_48 : decode cX8_wins 48 = .ok (.ireturn, 1) := by decide +kernel
theorem dX8_wins_49 : decode cX8_wins 49 = .ok (.iload 5, 2) := by decide +kernel
theorem dX8_wins_51 : decode cX8_wins 51 = .ok (.iconst 2, 1) := by decide +kernel
theorem dX8_wins_52 : decode cX8_wins 52 = .ok (.if_icmp .ne 12, 3) := by decide +kernel
theorem dX8_wins_55 : decode cX8_wins 55 = .ok (.aload_n 0, 1) := by decide +kernel
theorem dX8_wins_56 : decode cX8_wins 56 = .ok (.getfield 31, 3) := by decide +kernel
theorem dX8_wins_59 : decode cX8_wins 59 = .ok (.iconst 0, 1) := by decide +kernel
theorem dX8_wins_60 : decode cX8_wins 60 = .ok (.invokevirtual 145, 3) := by decide +kernel
theorem dX8_wins_63 : decode cX8_wins 63 = .ok (.ireturn, 1) := by decide +kernel
theorem dX8_wins_64 : decode cX8_wins 64 = .ok (.aload_n 0, 1) := by decide +kernel
theorem dX8_wins_65 : decode cX8_wins 65 = .ok (.getfield 31, 3) := by decide +kernel
theorem dX8_wins_68 : decode cX8_wins 68 = .ok (.iload 5, 2) := by decide +kernel
theorem dX8_wins_70 : decode cX8_wins 70 = .ok (.ifCond .ne 7, 3) := by decide +kernel
theorem dX8_wins_73 : decode cX8_wins 73 = .ok (.iconst 1, 1) := by decide +kernel
theorem dX8_wins_74 : decode cX8_wins 74 = .ok (.goto 4, 3) := by decide +kernel
theorem dX8_wins_77 : decode cX8_wins 77 = .ok (.iconst (-1), 1) := by decide +kernel
theorem dX8_wins_78 : decode cX8_wins 78 = .ok (.invokevirtual 145, 3) := by decide +kernel
theorem dX8_wins_81 : decode cX8_wins 81 = .ok (.ireturn, 1) := by decide +kernel
set_option maxRecDepth 20000 in
theorem ggX8_likeness_X8_rowOf : GoodIn wsX8_likeness wsX8_rowOf := goodIn_r _ [6, 7, 8, 9, 5, 10, 11, 12, 13, 14, 15, 16, 17, 18, 19, 20, 21, 22, 23, 24, 25, 26, 27, 62, 63, 64, 65, 66, 67, 68, 69, 70, 71, 72] (by decide +kernel) (by decide +kernel)
set_option maxRecDepth 20000 in
theorem gX8_likeness_X8_rowOf : GoodIn wsX8_likeness (wsV RX8 80 RX8 yX8_rowOf wsX8_rowOf) := goodIn_app (goodIn_of _ (by decide +kernel)) ggX8_likeness_X8_rowOf
set_option maxRecDepth 20000 in
theorem ggX8_likeness_X5_putLikeness : GoodIn wsX8_likeness wsX5_putLikeness := goodIn_r _ [31, 32, 33, 34, 25, 35, 36, 37, 38, 39, 40, 41, 42, 43, 44, 45, 46, 47, 48, 49, 50, 51, 52, 53, 5, 54, 55, 56, 57, 58, 59, 60, 61, 70, 71, 72, 73, 74] (by decide +kernel) (by decide +kernel)
set_option maxRecDepth 20000 in
theorem gX8_likeness_X5_putLikeness : GoodIn wsX8_likeness (va_wsS RX8 148 yX5_putLikeness wsX5_putLikeness) := goodIn_app (goodIn_of _ (by decide +kernel)) ggX8_likeness_X5_putLikeness
theorem dX8_likeness_0 : decode cX8_likeness 0 = .ok (.aload_n 0, 1) := by decide +kernel
theorem dX8_likeness_1 : decode cX8_likeness 1 = .ok (.iload_n 1, 1) := by decide +kernel
theorem dX8_likeness_2 : decode cX8_likeness 2 = .ok (.iload_n 3, 1) := by decide +kernel
theorem dX8_likeness_3 : decode cX8_likeness 3 = .ok (.invokevirtual 80, 3) := by decide +kernel
theorem dX8_likeness_6 : decode cX8_likeness 6 = .ok (.astore 4, 2) := by decide +kernel
theorem dX8_likeness_8 : decode cX8_likeness 8 = .ok (.aload_n 0, 1) := by decide +kernel
theorem dX8_likeness_9 : decode cX8_likeness 9 = .ok (.iload_n 2, 1) := by decide +kernel
theorem dX8_likeness_10 : decode cX8_likeness 10 = .ok (.iload_n 3, 1) := by decide +kernel
theorem dX8_likeness_11 : decode cX8_likeness 11 = .ok (.invokevirtual 80, 3) := by decide +kernel
theorem dX8_likeness_14 : decode cX8_likeness 14 = .ok (.astore 5, 2) := by decide +kernel
theorem dX8_likeness_16 : decode cX8_likeness 16 = .ok (.aload 4, 2) := by decide +kernel
theorem dX8_likeness_18 : decode cX8_likeness 18 = .ok (.ifnull 8, 3) := by decide +kernel
theorem dX8_likeness_21 : decode cX8_likeness 21 = .ok (.aload 5, 2) := by decide +kernel
theorem dX8_likeness_23 : decode cX8_likeness 23 = .ok (.ifnonnull 5, 3) := by decide +kernel
theorem dX8_likeness_26 : decode cX8_likeness 26 = .ok (.iconst (-1), 1) := by decide +kernel
theorem dX8_likeness_27 : decode cX8_likeness 27 = .ok (.ireturn, 1) := by decide +kernel
theorem dX8_likeness_28 : decode cX8_likeness 28 = .ok (.aload_n 0, 1) := by decide +kernel
theorem dX8_likeness_29 : decode cX8_likeness 29 = .ok (.getfield 18, 3) := by decide +kernel
theorem dX8_likeness_32 : decode cX8_likeness 32 = .ok (.aload 4, 2) := by decide +kernel
theorem dX8_likeness_34 : decode cX8_likeness 34 = .ok (.aload 5, 2) := by decide +kernel
theorem dX8_likeness_36 : decode cX8_likeness 36 = .ok (.invokestatic 148, 3) := by decide +kernel
theorem dX8_likeness_39 : decode cX8_likeness 39 = .ok (.ireturn, 1) := by decide +kernel
set_option maxRecDepth 20000 in
theorem ggX8_overlap_X8_rowOf : GoodIn wsX8_overlap wsX8_rowOf := goodIn_r _ [6, 7, 8, 9, 5, 10, 11, 12, 13, 14, 15, 16, 17, 18, 19, 20, 21, 22, 23, 24, 25, 26, 27, 73, 74, 75, 76, 77, 78, 79, 80, 81, 82, 83] (by decide +kernel) (by decide +kernel)
set_option maxRecDepth 20000 in
theorem gX8_overlap_X8_rowOf : GoodIn wsX8_overlap (wsV RX8 80 RX8 yX8_rowOf wsX8_rowOf) := goodIn_app (goodIn_of _ (by decide +kernel)) ggX8_overlap_X8_rowOf
set_option maxRecDepth 20000 in
theorem ggX8_overlap_X8_isDepth : GoodIn wsX8_overlap wsX8_isDepth := goodIn_r _ [30] (by decide +kernel) (by decide +kernel)
set_option maxRecDepth 20000 in
theorem gX8_overlap_X8_isDepth : GoodIn wsX8_overlap (va_wsS RX8 98 yX8_isDepth wsX8_isDepth) := goodIn_app (goodIn_of _ (by decide +kernel)) ggX8_overlap_X8_isDepth
set_option maxRecDepth 20000 in
theorem ggX8_overlap_X5_putOverlap : GoodIn wsX8_overlap wsX5_putOverlap := goodIn_r _ [34, 35, 36, 37, 33, 38, 39, 40, 41, 25, 42, 43, 44, 45, 46, 47, 48, 49, 50, 51, 52, 53, 54, 55, 56, 57, 58, 59, 60, 61, 62, 63, 64, 5, 65, 66, 67, 68, 69, 70, 71, 72, 81, 82, 83, 84, 85] (by decide +kernel) (by decide +kernel)
set_option maxRecDepth 20000 in
theorem gX8_overlap_X5_putOverlap : GoodIn wsX8_overlap (va_wsS RX8 154 yX5_putOverlap wsX5_putOverlap) := goodIn_app (goodIn_of _ (by decide +kernel)) ggX8_overlap_X5_putOverlap
theorem dX8_overlap_0 : decode cX8_overlap 0 = .ok (.aload_n 0, 1) := by decide +kernel
theorem dX8_overlap_1 : decode cX8_overlap 1 = .ok (.iload_n 1, 1) := by decide +kernel
theorem dX8_overlap_2 : decode cX8_overlap 2 = .ok (.iload_n 3, 1) := by decide +kernel
theorem dX8_overlap_3 : decode cX8_overlap 3 = .ok (.invokevirtual 80, 3) := by decide +kernel
theorem dX8_overlap_6 : decode cX8_overlap 6 = .ok (.astore 5, 2) := by decide +kernel
theorem dX8_overlap_8 : decode cX8_overlap 8 = .ok (.aload_n 0, 1) := by decide +kernel
theorem dX8_overlap_9 : decode cX8_overlap 9 = .ok (.iload_n 2, 1) := by decide +kernel
theorem dX8_overlap_10 : decode cX8_overlap 10 = .ok (.iload_n 3, 1) := by decide +kernel
theorem dX8_overlap_11 : decode cX8_overlap 11 = .ok (.invokevirtual 80, 3) := by decide +kernel
theorem dX8_overlap_14 : decode cX8_overlap 14 = .ok (.astore 6, 2) := by decide +kernel
theorem dX8_overlap_16 : decode cX8_overlap 16 = .ok (.aload 5, 2) := by decide +kernel
theorem dX8_overlap_18 : decode cX8_overlap 18 = .ok (.ifnull 8, 3) := by decide +kernel
theorem dX8_overlap_21 : decode cX8_overlap 21 = .ok (.aload 6, 2) := by decide +kernel
theorem dX8_overlap_23 : decode cX8_overlap 23 = .ok (.ifnonnull 5, 3) := by decide +kernel
theorem dX8_overlap_26 : decode cX8_overlap 26 = .ok (.iconst (-1), 1) := by decide +kernel
theorem dX8_overlap_27 : decode cX8_overlap 27 = .ok (.ireturn, 1) := by decide +kernel
theorem dX8_overlap_28 : decode cX8_overlap 28 = .ok (.iload 4, 2) := by decide +kernel
theorem dX8_overlap_30 : decode cX8_overlap 30 = .ok (.invokestatic 98, 3) := by decide +kernel
theorem dX8_overlap_33 : decode cX8_overlap 33 = .ok (.ifCond .ne 6, 3) := by decide +kernel
theorem dX8_overlap_36 : decode cX8_overlap 36 = .ok (.bipush (-2), 2) := by decide +kernel
theorem dX8_overlap_38 : decode cX8_overlap 38 = .ok (.ireturn, 1) := by decide +kernel
theorem dX8_overlap_39 : decode cX8_overlap 39 = .ok (.aload_n 0, 1) := by decide +kernel
theorem dX8_overlap_40 : decode cX8_overlap 40 = .ok (.getfield 18, 3) := by decide +kernel
theorem dX8_overlap_43 : decode cX8_overlap 43 = .ok (.aload 5, 2) := by decide +kernel
theorem dX8_overlap_45 : decode cX8_overlap 45 = .ok (.aload 6, 2) := by decide +kernel
theorem dX8_overlap_47 : decode cX8_overlap 47 = .ok (.iload 4, 2) := by decide +kernel
theorem dX8_overlap_49 : decode cX8_overlap 49 = .ok (.invokestatic 154, 3) := by decide +kernel
theorem dX8_overlap_52 : decode cX8_overlap 52 = .ok (.iconst 1, 1) := by decide +kernel
theorem dX8_overlap_53 : decode cX8_overlap 53 = .ok (.ireturn, 1) := by decide +kernel
set_option maxRecDepth 20000 in
theorem ggX8_pool_X8_questionOf : GoodIn wsX8_pool wsX8_questionOf := goodIn_r _ [5, 6, 32, 33, 34, 35, 36, 37] (by decide +kernel) (by decide +kernel)
set_option maxRecDepth 20000 in
theorem gX8_pool_X8_questionOf : GoodIn wsX8_pool (wsV RX8 43 RX8 yX8_questionOf wsX8_questionOf) := goodIn_app (goodIn_of _ (by decide +kernel)) ggX8_pool_X8_questionOf
set_option maxRecDepth 20000 in
theorem ggX8_pool_X8_isDepth : GoodIn wsX8_pool wsX8_isDepth := goodIn_r _ [9] (by decide +kernel) (by decide +kernel)
set_option maxRecDepth 20000 in
theorem gX8_pool_X8_isDepth : GoodIn wsX8_pool (va_wsS RX8 98 yX8_isDepth wsX8_isDepth) := goodIn_app (goodIn_of _ (by decide +kernel)) ggX8_pool_X8_isDepth
set_option maxRecDepth 20000 in
theorem ggX8_pool_X6_pooled : GoodIn wsX8_pool wsX6_pooled := goodIn_r _ [14, 15, 16, 17, 18, 13, 19, 20, 21, 22, 23, 24, 25, 26, 27, 28, 29, 30, 31, 38, 39, 40, 41, 42] (by decide +kernel) (by decide +kernel)
set_option maxRecDepth 20000 in
theorem gX8_pool_X6_pooled : GoodIn wsX8_pool (wsV RX8 158 RX6 yX6_pooled wsX6_pooled) := goodIn_app (goodIn_of _ (by decide +kernel)) ggX8_pool_X6_pooled
theorem dX8_pool_0 : decode cX8_pool 0 = .ok (.aload_n 0, 1) := by decide +kernel
theorem dX8_pool_1 : decode cX8_pool 1 = .ok (.iload_n 1, 1) := by decide +kernel
theorem dX8_pool_2 : decode cX8_pool 2 = .ok (.invokevirtual 43, 3) := by decide +kernel
theorem dX8_pool_5 : decode cX8_pool 5 = .ok (.astore 4, 2) := by decide +kernel
theorem dX8_pool_7 : decode cX8_pool 7 = .ok (.aload 4, 2) := by decide +kernel
theorem dX8_pool_9 : decode cX8_pool 9 = .ok (.ifnonnull 5, 3) := by decide +kernel
theorem dX8_pool_12 : decode cX8_pool 12 = .ok (.iconst (-1), 1) := by decide +kernel
theorem dX8_pool_13 : decode cX8_pool 13 = .ok (.ireturn, 1) := by decide +kernel
theorem dX8_pool_14 : decode cX8_pool 14 = .ok (.iload_n 2, 1) := by decide +kernel
theorem dX8_pool_15 : decode cX8_pool 15 = .ok (.invokestatic 98, 3) := by decide +kernel
theorem dX8_pool_18 : decode cX8_pool 18 = .ok (.ifCond .ne 6, 3) := by decide +kernel
theorem dX8_pool_21 : decode cX8_pool 21 = .ok (.bipush (-2), 2) := by decide +kernel
theorem dX8_pool_23 : decode cX8_pool 23 = .ok (.ireturn, 1) := by decide +kernel
theorem dX8_pool_24 : decode cX8_pool 24 = .ok (.aload 4, 2) := by decide +kernel
theorem dX8_pool_26 : decode cX8_pool 26 = .ok (.iload_n 2, 1) := by decide +kernel
theorem dX8_pool_27 : decode cX8_pool 27 = .ok (.iload_n 3, 1) := by decide +kernel
theorem dX8_pool_28 : decode cX8_pool 28 = .ok (.invokevirtual 158, 3) := by decide +kernel
theorem dX8_pool_31 : decode cX8_pool 31 = .ok (.istore 5, 2) := by decide +kernel
theorem dX8_pool_33 : decode cX8_pool 33 = .ok (.iload 5, 2) := by decide +kernel
theorem dX8_pool_35 : decode cX8_pool 35 = .ok (.iconst (-1), 1) := by decide +kernel
theorem dX8_pool_36 : decode cX8_pool 36 = .ok (.if_icmp .ne 8, 3) := by decide +kernel
