theorem dX0_init_0 : decode cX0_init 0 = .ok (.aload_n 0, 1) := by decide +kernel
theorem dX0_init_1 : decode cX0_init 1 = .ok (.invokespecial 3, 3) := by decide +kernel
theorem dX0_init_4 : decode cX0_init 4 = .ok (.aload_n 0, 1) := by decide +kernel
theorem dX0_init_5 : decode cX0_init 5 = .ok (.bipush 8, 2) := by decide +kernel
theorem dX0_init_7 : decode cX0_init 7 = .ok (.newarray .long, 2) := by decide +kernel
theorem dX0_init_9 : decode cX0_init 9 = .ok (.putfield 9, 3) := by decide +kernel
theorem dX0_init_12 : decode cX0_init 12 = .ok (.aload_n 0, 1) := by decide +kernel
theorem dX0_init_13 : decode cX0_init 13 = .ok (.lconst 1, 1) := by decide +kernel
theorem dX0_init_14 : decode cX0_init 14 = .ok (.putfield 15, 3) := by decide +kernel
theorem dX0_init_17 : decode cX0_init 17 = .ok (.return_, 1) := by decide +kernel
theorem dX0_size_0 : decode cX0_size 0 = .ok (.aload_n 0, 1) := by decide +kernel
theorem dX0_size_1 : decode cX0_size 1 = .ok (.getfield 19, 3) := by decide +kernel
theorem dX0_size_4 : decode cX0_size 4 = .ok (.ireturn, 1) := by decide +kernel
theorem dX0_clear_0 : decode cX0_clear 0 = .ok (.aload_n 0, 1) := by decide +kernel
theorem dX0_clear_1 : decode cX0_clear 1 = .ok (.lconst 1, 1) := by decide +kernel
theorem dX0_clear_2 : decode cX0_clear 2 = .ok (.putfield 15, 3) := by decide +kernel
theorem dX0_clear_5 : decode cX0_clear 5 = .ok (.aload_n 0, 1) := by decide +kernel
theorem dX0_clear_6 : decode cX0_clear 6 = .ok (.iconst 0, 1) := by decide +kernel
theorem dX0_clear_7 : decode cX0_clear 7 = .ok (.putfield 19, 3) := by decide +kernel
theorem dX0_clear_10 : decode cX0_clear 10 = .ok (.return_, 1) := by decide +kernel
set_option maxRecDepth 20000 in
theorem ggX0_append_X1_below : GoodIn wsX0_append wsX1_below := goodIn_r _ [8, 9, 31, 32] (by decide +kernel) (by decide +kernel)
set_option maxRecDepth 20000 in
theorem gX0_append_X1_below : GoodIn wsX0_append (wsV RX0 23 RX1 yX1_below wsX1_below) := goodIn_app (goodIn_of _ (by decide +kernel)) ggX0_append_X1_below
set_option maxRecDepth 20000 in
theorem ggX0_append_X8_commonMultiple : GoodIn wsX0_append wsX8_commonMultiple := goodIn_r _ [12, 13, 14, 11, 15, 16, 17, 18, 19, 20, 21, 22] (by decide +kernel) (by decide +kernel)
set_option maxRecDepth 20000 in
theorem gX0_append_X8_commonMultiple_n29 : GoodIn wsX0_append (wsX8_commonMultiple) := ggX0_append_X8_commonMultiple
set_option maxRecDepth 20000 in
theorem ggX0_append_X1_above : GoodIn wsX0_append wsX1_above := goodIn_r _ [26, 27, 31, 32] (by decide +kernel) (by decide +kernel)
set_option maxRecDepth 20000 in
theorem gX0_append_X1_above : GoodIn wsX0_append (wsV RX0 33 RX1 yX1_above wsX1_above) := goodIn_app (goodIn_of _ (by decide +kernel)) ggX0_append_X1_above
theorem dX0_append_0 : decode cX0_append 0 = .ok (.aload_n 0, 1) := by decide +kernel
theorem dX0_append_1 : decode cX0_append 1 = .ok (.getfield 19, 3) := by decide +kernel
theorem dX0_append_4 : decode cX0_append 4 = .ok (.ifCond .lt 30, 3) := by decide +kernel
theorem dX0_append_7 : decode cX0_append 7 = .ok (.aload_n 0, 1) := by decide +kernel
theorem dX0_append_8 : decode cX0_append 8 = .ok (.getfield 19, 3) := by decide +kernel
theorem dX0_append_11 : decode cX0_append 11 = .ok (.bipush 8, 2) := by decide +kernel
theorem dX0_append_13 : decode cX0_append 13 = .ok (.if_icmp .ge 21, 3) := by decide +kernel
theorem dX0_append_16 : decode cX0_append 16 = .ok (.aload_n 0, 1) := by decide +kernel
theorem dX0_append_17 : decode cX0_append 17 = .ok (.getfield 15, 3) := by decide +kernel
theorem dX0_append_20 : decode cX0_append 20 = .ok (.lconst 1, 1) := by decide +kernel
theorem dX0_append_21 : decode cX0_append 21 = .ok (.lcmp, 1) := by decide +kernel
theorem dX0_append_22 : decode cX0_append 22 = .ok (.ifCond .lt 12, 3) := by decide +kernel
theorem dX0_append_25 : decode cX0_append 25 = .ok (.aload_n 1, 1) := by decide +kernel
theorem dX0_append_26 : decode cX0_append 26 = .ok (.invokevirtual 23, 3) := by decide +kernel
theorem dX0_append_29 : decode cX0_append 29 = .ok (.lconst 1, 1) := by decide +kernel
theorem dX0_append_30 : decode cX0_append 30 = .ok (.lcmp, 1) := by decide +kernel
theorem dX0_append_31 : decode cX0_append 31 = .ok (.ifCond .ge 4, 3) := by decide +kernel
theorem dX0_append_34 : decode cX0_append 34 = .ok (.return_, 1) := by decide +kernel
theorem dX0_append_35 : decode cX0_append 35 = .ok (.aload_n 0, 1) := by decide +kernel
theorem dX0_append_36 : decode cX0_append 36 = .ok (.getfield 15, 3) := by decide +kernel
theorem dX0_append_39 : decode cX0_append 39 = .ok (.aload_n 1, 1) := by decide +kernel
theorem dX0_append_40 : decode cX0_append 40 = .ok (.invokevirtual 23, 3) := by decide +kernel
theorem dX0_append_43 : decode cX0_append 43 = .ok (.invokestatic 29, 3) := by decide +kernel
theorem dX0_append_46 : decode cX0_append 46 = .ok (.lstore_n 2, 1) := by decide +kernel
theorem dX0_append_47 : decode cX0_append 47 = .ok (.iconst 0, 1) := by decide +kernel
theorem dX0_append_48 : decode cX0_append 48 = .ok (.istore 4, 2) := by decide +kernel
theorem dX0_append_50 : decode cX0_append 50 = .ok (.iload 4, 2) := by decide +kernel
theorem dX0_append_52 : decode cX0_append 52 = .ok (.aload_n 0, 1) := by decide +kernel
theorem dX0_append_53 : decode cX0_append 53 = .ok (.getfield 19, 3) := by decide +kernel
theorem dX0_append_56 : decode cX0_append 56 = .ok (.if_icmp .ge 32, 3) := by decide +kernel
theorem dX0_append_59 : decode cX0_append 59 = .ok (.iload 4, 2) := by decide +kernel
theorem dX0_append_61 : decode cX0_append 61 = .ok (.bipush 8, 2) := by decide +kernel
theorem dX0_append_63 : decode cX0_append 63 = .ok (.if_icmp .ge 25, 3) := by decide +kernel
theorem dX0_append_66 : decode cX0_append 66 = .ok (.aload_n 0, 1) := by decide +kernel
theorem dX0_append_67 : decode cX0_append 67 = .ok (.getfield 9, 3) := by decide +kernel
theorem dX0_append_70 : decode cX0_append 70 = .ok (.iload 4, 2) := by decide +kernel
theorem dX0_append_72 : decode cX0_append 72 = .ok (.dup2, 1) := by decide +kernel
theorem dX0_append_73 : decode cX0_append 73 = .ok (.laload, 1) := by decide +kernel
theorem dX0_append_74 : decode cX0_append 74 = .ok (.lload_n 2, 1) := by decide +kernel
theorem dX0_append_75 : decode cX0_append 75 = .ok (.aload_n 0, 1) := by decide +kernel
theorem dX0_append_76 : decode cX0_append 76 = .ok (.getfield 15, 3) := by decide +kernel
theorem dX0_append_79 : decode cX0_append 79 = .ok (.ldiv, 1) := by decide +kernel
theorem dX0_append_80 : decode cX0_append 80 = .ok (.lmul, 1) := by decide +kernel
theorem dX0_append_81 : decode cX0_append 81 = .ok (.lastore, 1) := by decide +kernel
theorem dX0_append_82 : decode cX0_append 82 = .ok (.iinc 4 1, 3) := by decide +kernel
theorem dX0_append_85 : decode cX0_append 85 = .ok (.goto (-35), 3) := by decide +kernel
theorem dX0_append_88 : decode cX0_append 88 = .ok (.aload_n 0, 1) := by decide +kernel
theorem dX0_append_89 : decode cX0_append 89 = .ok (.getfield 9, 3) := by decide +kernel
theorem dX0_append_92 : decode cX0_append 92 = .ok (.aload_n 0, 1) := by decide +kernel
theorem dX0_append_93 : decode cX0_append 93 = .ok (.getfield 19, 3) := by decide +kernel
theorem dX0_append_96 : decode cX0_append 96 = .ok (.aload_n 1, 1) := by decide +kernel
theorem dX0_append_97 : decode cX0_append 97 = .ok (.invokevirtual 33, 3) := by decide +kernel
theorem dX0_append_100 : decode cX0_append 100 = .ok (.lload_n 2, 1) := by decide +kernel
theorem dX0_append_101 : decode cX0_append 101 = .ok (.aload_n 1, 1) := by decide +kernel
theorem dX0_append_102 : decode cX0_append 102 = .ok (.invokevirtual 23, 3) := by decide +kernel
theorem dX0_append_105 : decode cX0_append 105 = .ok (.ldiv, 1) := by decide +kernel
theorem dX0_append_106 : decode cX0_append 106 = .ok (.lmul, 1) := by decide +kernel
theorem dX0_append_107 : decode cX0_append 107 = .ok (.lastore, 1) := by decide +kernel
theorem dX0_append_108 : decode cX0_append 108 = .ok (.aload_n 0, 1) := by decide +kernel
theorem dX0_append_109 : decode cX0_append 109 = .ok (.lload_n 2, 1) := by decide +kernel
theorem dX0_append_110 : decode cX0_append 110 = .ok (.putfield 15, 3) := by decide +kernel
theorem dX0_append_113 : decode cX0_append 113 = .ok (.aload_n 0, 1) := by decide +kernel
theorem dX0_append_114 : decode cX0_append 114 = .ok (.dup, 1) := by decide +kernel
theorem dX0_append_115 : decode cX0_append 115 = .ok (.getfield 19, 3) := by decide +kernel
theorem dX0_append_118 : decode cX0_append 118 = .ok (.iconst 1, 1) := by decide +kernel
theorem dX0_append_119 : decode cX0_append 119 = .ok (.iadd, 1) := by decide +kernel
theorem dX0_append_120 : decode cX0_append 120 = .ok (.putfield 19, 3) := by decide +kernel
theorem dX0_append_123 : decode cX0_append 123 = .ok (.return_, 1) := by decide +kernel
set_option maxRecDepth 20000 in
theorem ggX0_differencesWithSign_J13_signum_95d88 : GoodIn wsX0_differencesWithSign wsJ13_signum_95d88 := goodIn_r _ [6] (by decide +kernel) (by decide +kernel)
set_option maxRecDepth 20000 in
theorem gX0_differencesWithSign_J13_signum_95d88 : GoodIn wsX0_differencesWithSign (va_wsS RX0 36 yJ13_signum_95d88 wsJ13_signum_95d88) := goodIn_app (goodIn_of _ (by decide +kernel)) ggX0_differencesWithSign_J13_signum_95d88
theorem dX0_differencesWithSign_0 : decode cX0_differencesWithSign 0 = .ok (.iconst 0, 1) := by decide +kernel
theorem dX0_differencesWithSign_1 : decode cX0_differencesWithSign 1 = .ok (.istore_n 2, 1) := by decide +kernel
theorem dX0_differencesWithSign_2 : decode cX0_differencesWithSign 2 = .ok (.iconst 0, 1) := by decide +kernel
theorem dX0_differencesWithSign_3 : decode cX0_differencesWithSign 3 = .ok (.istore_n 3, 1) := by decide +kernel
theorem dX0_differencesWithSign_4 : decode cX0_differencesWithSign 4 = .ok (.iload_n 3, 1) := by decide +kernel
theorem dX0_differencesWithSign_5 : decode cX0_differencesWithSign 5 = .ok (.aload_n 0, 1) := by decide +kernel
theorem dX0_differencesWithSign_6 : decode cX0_differencesWithSign 6 = .ok (.getfield 19, 3) := by decide +kernel
theorem dX0_differencesWithSign_9 : decode cX0_differencesWithSign 9 = .ok (.if_icmp .ge 31, 3) := by decide +kernel
theorem dX0_differencesWithSign_12 : decode cX0_differencesWithSign 12 = .ok (.iload_n 3, 1) := by decide +kernel
theorem dX0_differencesWithSign_13 : decode cX0_differencesWithSign 13 = .ok (.bipush 8, 2) := by decide +kernel
theorem dX0_differencesWithSign_15 : decode cX0_differencesWithSign 15 = .ok (.if_icmp .ge 25, 3) := by decide +kernel
theorem dX0_differencesWithSign_18 : decode cX0_differencesWithSign 18 = .ok (.aload_n 0, 1) := by decide +kernel
theorem dX0_differencesWithSign_19 : decode cX0_differencesWithSign 19 = .ok (.getfield 9, 3) := by decide +kernel
theorem dX0_differencesWithSign_22 : decode cX0_differencesWithSign 22 = .ok (.iload_n 3, 1) := by decide +kernel
theorem dX0_differencesWithSign_23 : decode cX0_differencesWithSign 23 = .ok (.laload, 1) := by decide +kernel
theorem dX0_differencesWithSign_24 : decode cX0_differencesWithSign 24 = .ok (.invokestatic 36, 3) := by decide +kernel
theorem dX0_differencesWithSign_27 : decode cX0_differencesWithSign 27 = .ok (.iload_n 1, 1) := by decide +kernel
theorem dX0_differencesWithSign_28 : decode cX0_differencesWithSign 28 = .ok (.if_icmp .ne 6, 3) := by decide +kernel
theorem dX0_differencesWithSign_31 : decode cX0_differencesWithSign 31 = .ok (.iinc 2 1, 3) := by decide +kernel
theorem dX0_differencesWithSign_34 : decode cX0_differencesWithSign 34 = .ok (.iinc 3 1, 3) := by decide +kernel
theorem dX0_differencesWithSign_37 : decode cX0_differencesWithSign 37 = .ok (.goto (-33), 3) := by decide +kernel
theorem dX0_differencesWithSign_40 : decode cX0_differencesWithSign 40 = .ok (.iload_n 2, 1) := by decide +kernel
theorem dX0_differencesWithSign_41 : decode cX0_differencesWithSign 41 = .ok (.ireturn, 1) := by decide +kernel
set_option maxRecDepth 20000 in
theorem ggX0_waysAsFarApart_X0_waysBehind : GoodIn wsX0_waysAsFarApart wsX0_waysBehind := goodIn_r _ [10, 3, 4, 5, 6, 7, 8, 9] (by decide +kernel) (by decide +kernel)
set_option maxRecDepth 20000 in
theorem gX0_waysAsFarApart_X0_waysBehind : GoodIn wsX0_waysAsFarApart (va_wsS RX0 48 yX0_waysBehind wsX0_waysBehind) := goodIn_app (goodIn_of _ (by decide +kernel)) ggX0_waysAsFarApart_X0_waysBehind
theorem dX0_waysAsFarApart_0 : decode cX0_waysAsFarApart 0 = .ok (.lconst 0, 1) := by decide +kernel
theorem dX0_waysAsFarApart_1 : decode cX0_waysAsFarApart 1 = .ok (.lstore_n 1, 1) := by decide +kernel
theorem dX0_waysAsFarApart_2 : decode cX0_waysAsFarApart 2 = .ok (.iconst 0, 1) := by decide +kernel
theorem dX0_waysAsFarApart_3 : decode cX0_waysAsFarApart 3 = .ok (.istore_n 3, 1) := by decide +kernel
theorem dX0_waysAsFarApart_4 : decode cX0_waysAsFarApart 4 = .ok (.iload_n 3, 1) := by decide +kernel
theorem dX0_waysAsFarApart_5 : decode cX0_waysAsFarApart 5 = .ok (.aload_n 0, 1) := by decide +kernel
theorem dX0_waysAsFarApart_6 : decode cX0_waysAsFarApart 6 = .ok (.getfield 19, 3) := by decide +kernel
theorem dX0_waysAsFarApart_9 : decode cX0_waysAsFarApart 9 = .ok (.if_icmp .ge 24, 3) := by decide +kernel
theorem dX0_waysAsFarApart_12 : decode cX0_waysAsFarApart 12 = .ok (.iload_n 3, 1) := by decide +kernel
theorem dX0_waysAsFarApart_13 : decode cX0_waysAsFarApart 13 = .ok (.bipush 8, 2) := by decide +kernel
theorem dX0_waysAsFarApart_15 : decode cX0_waysAsFarApart 15 = .ok (.if_icmp .ge 18, 3) := by decide +kernel
theorem dX0_waysAsFarApart_18 : decode cX0_waysAsFarApart 18 = .ok (.lload_n 1, 1) := by decide +kernel
theorem dX0_waysAsFarApart_19 : decode cX0_waysAsFarApart 19 = .ok (.aload_n 0, 1) := by decide +kernel
theorem dX0_waysAsFarApart_20 : decode cX0_waysAsFarApart 20 = .ok (.getfield 9, 3) := by decide +kernel
theorem dX0_waysAsFarApart_23 : decode cX0_waysAsFarApart 23 = .ok (.iload_n 3, 1) := by decide +kernel
theorem dX0_waysAsFarApart_24 : decode cX0_waysAsFarApart 24 = .ok (.laload, 1) := by decide +kernel
theorem dX0_waysAsFarApart_25 : decode cX0_waysAsFarApart 25 = .ok (.ladd, 1) := by decide +kernel
theorem dX0_waysAsFarApart_26 : decode cX0_waysAsFarApart 26 = .ok (.lstore_n 1, 1) := by decide +kernel
theorem dX0_waysAsFarApart_27 : decode cX0_waysAsFarApart 27 = .ok (.iinc 3 1, 3) := by decide +kernel
theorem dX0_waysAsFarApart_30 : decode cX0_waysAsFarApart 30 = .ok (.goto (-26), 3) := by decide +kernel
theorem dX0_waysAsFarApart_33 : decode cX0_waysAsFarApart 33 = .ok (.aload_n 0, 1) := by decide +kernel
theorem dX0_waysAsFarApart_34 : decode cX0_waysAsFarApart 34 = .ok (.getfield 9, 3) := by decide +kernel
theorem dX0_waysAsFarApart_37 : decode cX0_waysAsFarApart 37 = .ok (.aload_n 0, 1) := by decide +kernel
theorem dX0_waysAsFarApart_38 : decode cX0_waysAsFarApart 38 = .ok (.getfield 19, 3) := by decide +kernel
theorem dX0_waysAsFarApart_41 : decode cX0_waysAsFarApart 41 = .ok (.iconst 0, 1) := by decide +kernel
theorem dX0_waysAsFarApart_42 : decode cX0_waysAsFarApart 42 = .ok (.lconst 0, 1) := by decide +kernel
theorem dX0_waysAsFarApart_43 : decode cX0_waysAsFarApart 43 = .ok (.lload_n 1, 1) := by decide +kernel
theorem dX0_waysAsFarApart_44 : decode cX0_waysAsFarApart 44 = .ok (.invokestatic 42, 3) := by decide +kernel
theorem dX0_waysAsFarApart_47 : decode cX0_waysAsFarApart 47 = .ok (.invokestatic 48, 3) := by decide +kernel
theorem dX0_waysAsFarApart_50 : decode cX0_waysAsFarApart 50 = .ok (.lreturn, 1) := by decide +kernel
set_option maxRecDepth 20000 in
theorem ggX0_waysBehind_X0_waysBehind : GoodIn wsX0_waysBehind wsX0_waysBehind := goodIn_r _ [0, 1, 2, 3, 4, 5, 6, 7] (by decide +kernel) (by decide +kernel)
set_option maxRecDepth 20000 in
theorem gX0_waysBehind_X0_waysBehind : GoodIn wsX0_waysBehind (va_wsS RX0 48 yX0_waysBehind wsX0_waysBehind) := goodIn_app (goodIn_of _ (by decide +kernel)) ggX0_waysBehind_X0_waysBehind
theorem dX0_waysBehind_0 : decode cX0_waysBehind 0 = .ok (.iload_n 2, 1) := by decide +kernel
theorem dX0_waysBehind_1 : decode cX0_waysBehind 1 = .ok (.ifCond .lt 14, 3) := by decide +kernel
theorem dX0_waysBehind_4 : decode cX0_waysBehind 4 = .ok (.iload_n 2, 1) := by decide +kernel
theorem dX0_waysBehind_5 : decode cX0_waysBehind 5 = .ok (.iload_n 1, 1) := by decide +kernel
theorem dX0_waysBehind_6 : decode cX0_waysBehind 6 = .ok (.if_icmp .ge 9, 3) := by decide +kernel
theorem dX0_waysBehind_9 : decode cX0_waysBehind 9 = .ok (.iload_n 2, 1) := by decide +kernel
theorem dX0_waysBehind_10 : decode cX0_waysBehind 10 = .ok (.aload_n 0, 1) := by decide +kernel
theorem dX0_waysBehind_11 : decode cX0_waysBehind 11 = .ok (.arraylength, 1) := by decide +kernel
theorem dX0_waysBehind_12 : decode cX0_waysBehind 12 = .ok (.if_icmp .lt 19, 3) := by decide +kernel
theorem dX0_waysBehind_15 : decode cX0_waysBehind 15 = .ok (.lload_n 3, 1) := by decide +kernel
theorem dX0_waysBehind_16 : decode cX0_waysBehind 16 = .ok (.invokestatic 42, 3) := by decide +kernel
theorem dX0_waysBehind_19 : decode cX0_waysBehind 19 = .ok (.lload 5, 2) := by decide +kernel
theorem dX0_waysBehind_21 : decode cX0_waysBehind 21 = .ok (.lcmp, 1) := by decide +kernel
theorem dX0_waysBehind_22 : decode cX0_waysBehind 22 = .ok (.ifCond .lt 7, 3) := by decide +kernel
theorem dX0_waysBehind_25 : decode cX0_waysBehind 25 = .ok (.lconst 1, 1) := by decide +kernel
theorem dX0_waysBehind_26 : decode cX0_waysBehind 26 = .ok (.goto 4, 3) := by decide +kernel
theorem dX0_waysBehind_29 : decode cX0_waysBehind 29 = .ok (.lconst 0, 1) := by decide +kernel
theorem dX0_waysBehind_30 : decode cX0_waysBehind 30 = .ok (.lreturn, 1) := by decide +kernel
theorem dX0_waysBehind_31 : decode cX0_waysBehind 31 = .ok (.aload_n 0, 1) := by decide +kernel
theorem dX0_waysBehind_32 : decode cX0_waysBehind 32 = .ok (.iload_n 2, 1) := by decide +kernel
theorem dX0_waysBehind_33 : decode cX0_waysBehind 33 = .ok (.laload, 1) := by decide +kernel
theorem dX0_waysBehind_34 : decode cX0_waysBehind 34 = .ok (.lstore 7, 2) := by decide +kernel
theorem dX0_waysBehind_36 : decode cX0_waysBehind 36 = .ok (.aload_n 0, 1) := by decide +kernel
theorem dX0_waysBehind_37 : decode cX0_waysBehind 37 = .ok (.iload_n 1, 1) := by decide +kernel
theorem dX0_waysBehind_38 : decode cX0_waysBehind 38 = .ok (.iload_n 2, 1) := by decide +kernel
theorem dX0_waysBehind_39 : decode cX0_waysBehind 39 = .ok (.iconst 1, 1) := by decide +kernel
theorem dX0_waysBehind_40 : decode cX0_waysBehind 40 = .ok (.iadd, 1) := by decide +kernel
theorem dX0_waysBehind_41 : decode cX0_waysBehind 41 = .ok (.lload_n 3, 1) := by decide +kernel
theorem dX0_waysBehind_42 : decode cX0_waysBehind 42 = .ok (.lload 7, 2) := by decide +kernel
theorem dX0_waysBehind_44 : decode cX0_waysBehind 44 = .ok (.ladd, 1) := by decide +kernel
theorem dX0_waysBehind_45 : decode cX0_waysBehind 45 = .ok (.lload 5, 2) := by decide +kernel
theorem dX0_waysBehind_47 : decode cX0_waysBehind 47 = .ok (.invokestatic 48, 3) := by decide +kernel
theorem dX0_waysBehind_50 : decode cX0_waysBehind 50 = .ok (.aload_n 0, 1) := by decide +kernel
theorem dX0_waysBehind_51 : decode cX0_waysBehind 51 = .ok (.iload_n 1, 1) := by decide +kernel
theorem dX0_waysBehind_52 : decode cX0_waysBehind 52 = .ok (.iload_n 2, 1) := by decide +kernel
theorem dX0_waysBehind_53 : decode cX0_waysBehind 53 = .ok (.iconst 1, 1) := by decide +kernel
theorem dX0_waysBehind_54 : decode cX0_waysBehind 54 = .ok (.iadd, 1) := by decide +kernel
theorem dX0_waysBehind_55 : decode cX0_waysBehind 55 = .ok (.lload_n 3, 1) := by decide +kernel
theorem dX0_waysBehind_56 : decode cX0_waysBehind 56 = .ok (.lload 7, 2) := by decide +kernel
theorem dX0_waysBehind_58 : decode cX0_waysBehind 58 = .ok (.lsub, 1) := by decide +kernel
theorem dX0_waysBehind_59 : decode cX0_waysBehind 59 = .ok (.lload 5, 2) := by decide +kernel
theorem dX0_waysBehind_61 : decode cX0_waysBehind 61 = .ok (.invokestatic 48, 3) := by decide +kernel
theorem dX0_waysBehind_64 : decode cX0_waysBehind 64 = .ok (.ladd, 1) := by decide +kernel
theorem dX0_waysBehind_65 : decode cX0_waysBehind 65 = .ok (.lreturn, 1) := by decide +kernel
theorem dX1_init_0 : decode cX1_init 0 = .ok (.aload_n 0, 1) := by decide +kernel
theorem dX1_init_1 : decode cX1_init 1 = .ok (.invokespecial 1, 3) := by decide +kernel
theorem dX1_init_4 : decode cX1_init 4 = .ok (.aload_n 0, 1) := by decide +kernel
theorem dX1_init_5 : decode cX1_init 5 = .ok (.lconst 1, 1) := by decide +kernel
theorem dX1_init_6 : decode cX1_init 6 = .ok (.putfield 7, 3) := by decide +kernel
theorem dX1_init_9 : decode cX1_init 9 = .ok (.return_, 1) := by decide +kernel
theorem dX1_above_0 : decode cX1_above 0 = .ok (.aload_n 0, 1) := by decide +kernel
theorem dX1_above_1 : decode cX1_above 1 = .ok (.getfield 13, 3) := by decide +kernel
theorem dX1_above_4 : decode cX1_above 4 = .ok (.lreturn, 1) := by decide +kernel
theorem dX1_below_0 : decode cX1_below 0 = .ok (.aload_n 0, 1) := by decide +kernel
theorem dX1_below_1 : decode cX1_below 1 = .ok (.getfield 7, 3) := by decide +kernel
theorem dX1_below_4 : decode cX1_below 4 = .ok (.lreturn, 1) := by decide +kernel
set_option maxRecDepth 20000 in
theorem ggX1_become_X8_commonDivisor : GoodIn wsX1_become wsX8_commonDivisor := goodIn_r _ [5, 6, 7, 8, 9, 10, 11, 12] (by decide +kernel) (by decide +kernel)
set_option maxRecDepth 20000 in
theorem gX1_become_X8_commonDivisor_n16 : GoodIn wsX1_become (wsX8_commonDivisor) := ggX1_become_X8_commonDivisor
theorem dX1_become_0 : decode cX1_become 0 = .ok (.lload_n 3, 1) := by decide +kernel
theorem dX1_become_1 : decode cX1_become 1 = .ok (.lconst 1, 1) := by decide +kernel
theorem dX1_become_2 : decode cX1_become 2 = .ok (.lcmp, 1) := by decide +kernel
theorem dX1_become_3 : decode cX1_become 3 = .ok (.ifCond .ge 14, 3) := by decide +kernel
theorem dX1_become_6 : decode cX1_become 6 = .ok (.aload_n 0, 1) := by decide +kernel
theorem dX1_become_7 : decode cX1_become 7 = .ok (.lconst 0, 1) := by decide +kernel
theorem dX1_become_8 : decode cX1_become 8 = .ok (.putfield 13, 3) := by decide +kernel
theorem dX1_become_11 : decode cX1_become 11 = .ok (.aload_n 0, 1) := by decide +kernel
theorem dX1_become_12 : decode cX1_become 12 = .ok (.lconst 1, 1) := by decide +kernel
theorem dX1_become_13 : decode cX1_become 13 = .ok (.putfield 7, 3) := by decide +kernel
theorem dX1_become_16 : decode cX1_become 16 = .ok (.return_, 1) := by decide +kernel
theorem dX1_become_17 : decode cX1_become 17 = .ok (.lload_n 1, 1) := by decide +kernel
theorem dX1_become_18 : decode cX1_become 18 = .ok (.lload_n 3, 1) := by decide +kernel
theorem dX1_become_19 : decode cX1_become 19 = .ok (.invokestatic 16, 3) := by decide +kernel
theorem dX1_become_22 : decode cX1_become 22 = .ok (.lstore 5, 2) := by decide +kernel
theorem dX1_become_24 : decode cX1_become 24 = .ok (.aload_n 0, 1) := by decide +kernel
theorem dX1_become_25 : decode cX1_become 25 = .ok (.lload_n 1, 1) := by decide +kernel
theorem dX1_become_26 : decode cX1_become 26 = .ok (.lload 5, 2) := by decide +kernel
theorem dX1_become_28 : decode cX1_become 28 = .ok (.ldiv, 1) := by decide +kernel
theorem dX1_become_29 : decode cX1_become 29 = .ok (.putfield 13, 3) := by decide +kernel
theorem dX1_become_32 : decode cX1_become 32 = .ok (.aload_n 0, 1) := by decide +kernel
theorem dX1_become_33 : decode cX1_become 33 = .ok (.lload_n 3, 1) := by decide +kernel
theorem dX1_become_34 : decode cX1_become 34 = .ok (.lload 5, 2) := by decide +kernel
theorem dX1_become_36 : decode cX1_become 36 = .ok (.ldiv, 1) := by decide +kernel
theorem dX1_become_37 : decode cX1_become 37 = .ok (.putfield 7, 3) := by decide +kernel
theorem dX1_become_40 : decode cX1_become 40 = .ok (.return_, 1) := by decide +kernel
set_option maxRecDepth 20000 in
theorem ggX1_add_X8_commonMultiple : GoodIn wsX1_add wsX8_commonMultiple := goodIn_r _ [5, 6, 7, 4, 8, 9, 10, 11, 12, 13, 14, 15] (by decide +kernel) (by decide +kernel)
set_option maxRecDepth 20000 in
theorem gX1_add_X8_commonMultiple_n22 : GoodIn wsX1_add (wsX8_commonMultiple) := ggX1_add_X8_commonMultiple
set_option maxRecDepth 20000 in
theorem ggX1_add_X1_become : GoodIn wsX1_add wsX1_become := goodIn_r _ [20, 2, 1, 7, 4, 8, 9, 10, 11, 12, 13, 14, 15, 21, 22] (by decide +kernel) (by decide +kernel)
set_option maxRecDepth 20000 in
theorem gX1_add_X1_become : GoodIn wsX1_add (wsV RX1 25 RX1 yX1_become wsX1_become) := goodIn_app (goodIn_of _ (by decide +kernel)) ggX1_add_X1_become
theorem dX1_add_0 : decode cX1_add 0 = .ok (.aload_n 0, 1) := by decide +kernel
theorem dX1_add_1 : decode cX1_add 1 = .ok (.getfield 7, 3) := by decide +kernel
theorem dX1_add_4 : decode cX1_add 4 = .ok (.lconst 1, 1) := by decide +kernel
theorem dX1_add_5 : decode cX1_add 5 = .ok (.lcmp, 1) := by decide +kernel
theorem dX1_add_6 : decode cX1_add 6 = .ok (.ifCond .lt 12, 3) := by decide +kernel
theorem dX1_add_9 : decode cX1_add 9 = .ok (.aload_n 1, 1) := by decide +kernel
theorem dX1_add_10 : decode cX1_add 10 = .ok (.getfield 7, 3) := by decide +kernel
theorem dX1_add_13 : decode cX1_add 13 = .ok (.lconst 1, 1) := by decide +kernel
theorem dX1_add_14 : decode cX1_add 14 = .ok (.lcmp, 1) := by decide +kernel
theorem dX1_add_15 : decode cX1_add 15 = .ok (.ifCond .ge 4, 3) := by decide +kernel
theorem dX1_add_18 : decode cX1_add 18 = .ok (.return_, 1) := by decide +kernel
theorem dX1_add_19 : decode cX1_add 19 = .ok (.aload_n 0, 1) := by decide +kernel
theorem dX1_add_20 : decode cX1_add 20 = .ok (.getfield 7, 3) := by decide +kernel
theorem dX1_add_23 : decode cX1_add 23 = .ok (.aload_n 1, 1) := by decide +kernel
theorem dX1_add_24 : decode cX1_add 24 = .ok (.getfield 7, 3) := by decide +kernel
theorem dX1_add_27 : decode cX1_add 27 = .ok (.invokestatic 22, 3) := by decide +kernel
theorem dX1_add_30 : decode cX1_add 30 = .ok (.lstore 4, 2) := by decide +kernel
theorem dX1_add_32 : decode cX1_add 32 = .ok (.aload_n 0, 1) := by decide +kernel
theorem dX1_add_33 : decode cX1_add 33 = .ok (.aload_n 0, 1) := by decide +kernel
theorem dX1_add_34 : decode cX1_add 34 = .ok (.getfield 13, 3) := by decide +kernel
theorem dX1_add_37 : decode cX1_add 37 = .ok (.lload 4, 2) := by decide +kernel
theorem dX1_add_39 : decode cX1_add 39 = .ok (.aload_n 0, 1) := by decide +kernel
theorem dX1_add_40 : decode cX1_add 40 = .ok (.getfield 7, 3) := by decide +kernel
theorem dX1_add_43 : decode cX1_add 43 = .ok (.ldiv, 1) := by decide +kernel
theorem dX1_add_44 : decode cX1_add 44 = .ok (.lmul, 1) := by decide +kernel
theorem dX1_add_45 : decode cX1_add 45 = .ok (.lload_n 2, 1) := by decide +kernel
theorem dX1_add_46 : decode cX1_add 46 = .ok (.aload_n 1, 1) := by decide +kernel
theorem dX1_add_47 : decode cX1_add 47 = .ok (.getfield 13, 3) := by decide +kernel
theorem dX1_add_50 : decode cX1_add 50 = .ok (.lmul, 1) := by decide +kernel
theorem dX1_add_51 : decode cX1_add 51 = .ok (.lload 4, 2) := by decide +kernel
theorem dX1_add_53 : decode cX1_add 53 = .ok (.aload_n 1, 1) := by decide +kernel
theorem dX1_add_54 : decode cX1_add 54 = .ok (.getfield 7, 3) := by decide +kernel
theorem dX1_add_57 : decode cX1_add 57 = .ok (.ldiv, 1) := by decide +kernel
theorem dX1_add_58 : decode cX1_add 58 = .ok (.lmul, 1) := by decide +kernel
theorem dX1_add_59 : decode cX1_add 59 = .ok (.ladd, 1) := by decide +kernel
theorem dX1_add_60 : decode cX1_add 60 = .ok (.lload 4, 2) := by decide +kernel
theorem dX1_add_62 : decode cX1_add 62 = .ok (.invokevirtual 25, 3) := by decide +kernel
theorem dX1_add_65 : decode cX1_add 65 = .ok (.return_, 1) := by decide +kernel
set_option maxRecDepth 20000 in
theorem ggX2_gainOf_X7_documentAt : GoodIn wsX2_gainOf wsX7_documentAt := goodIn_r _ [5, 6, 7, 28, 29, 30] (by decide +kernel) (by decide +kernel)
set_option maxRecDepth 20000 in
theorem gX2_gainOf_X7_documentAt : GoodIn wsX2_gainOf (wsV RX2 9 RX7 yX7_documentAt wsX7_documentAt) := goodIn_app (goodIn_of _ (by decide +kernel)) ggX2_gainOf_X7_documentAt
set_option maxRecDepth 20000 in
theorem ggX2_gainOf_X6_gradeOf : GoodIn wsX2_gainOf wsX6_gradeOf := goodIn_r _ [12, 13, 31, 32] (by decide +kernel) (by decide +kernel)
set_option maxRecDepth 20000 in
theorem gX2_gainOf_X6_gradeOf : GoodIn wsX2_gainOf (wsV RX2 15 RX6 yX6_gradeOf wsX6_gradeOf) := goodIn_app (goodIn_of _ (by decide +kernel)) ggX2_gainOf_X6_gradeOf
set_option maxRecDepth 20000 in
theorem ggX2_gainOf_X3_weightOf : GoodIn wsX2_gainOf wsX3_weightOf := goodIn_r _ [17] (by decide +kernel) (by decide +kernel)
set_option maxRecDepth 20000 in
theorem gX2_gainOf_X3_weightOf : GoodIn wsX2_gainOf (va_wsS RX2 20 yX3_weightOf wsX3_weightOf) := goodIn_app (goodIn_of _ (by decide +kernel)) ggX2_gainOf_X3_weightOf
set_option maxRecDepth 20000 in
theorem ggX2_gainOf_X2_logOf : GoodIn wsX2_gainOf wsX2_logOf := goodIn_r _ [21, 22, 23, 24, 25, 26, 27] (by decide +kernel) (by decide +kernel)
set_option maxRecDepth 20000 in
theorem gX2_gainOf_X2_logOf : GoodIn wsX2_gainOf (va_wsS RX2 26 yX2_logOf wsX2_logOf) := goodIn_app (goodIn_of _ (by decide +kernel)) ggX2_gainOf_X2_logOf
theorem dX2_gainOf_0 : decode cX2_gainOf 0 = .ok (.lconst 0, 1) := by decide +kernel
theorem dX2_gainOf_1 : decode cX2_gainOf 1 = .ok (.lstore 4, 2) := by decide +kernel
theorem dX2_gainOf_3 : decode cX2_gainOf 3 = .ok (.iconst 1, 1) := by decide +kernel
theorem dX2_gainOf_4 : decode cX2_gainOf 4 = .ok (.istore 6, 2) := by decide +kernel
theorem dX2_gainOf_6 : decode cX2_gainOf 6 = .ok (.iload 6, 2) := by decide +kernel
theorem dX2_gainOf_8 : decode cX2_gainOf 8 = .ok (.iload_n 2, 1) := by decide +kernel
theorem dX2_gainOf_9 : decode cX2_gainOf 9 = .ok (.if_icmp .gt 72, 3) := by decide +kernel
theorem dX2_gainOf_12 : decode cX2_gainOf 12 = .ok (.aload_n 0, 1) := by decide +kernel
theorem dX2_gainOf_13 : decode cX2_gainOf 13 = .ok (.aload_n 1, 1) := by decide +kernel
theorem dX2_gainOf_14 : decode cX2_gainOf 14 = .ok (.iload 6, 2) := by decide +kernel
theorem dX2_gainOf_16 : decode cX2_gainOf 16 = .ok (.invokevirtual 9, 3) := by decide +kernel
theorem dX2_gainOf_19 : decode cX2_gainOf 19 = .ok (.invokevirtual 15, 3) := by decide +kernel
theorem dX2_gainOf_22 : decode cX2_gainOf 22 = .ok (.invokestatic 20, 3) := by decide +kernel
theorem dX2_gainOf_25 : decode cX2_gainOf 25 = .ok (.bipush 40, 2) := by decide +kernel
theorem dX2_gainOf_27 : decode cX2_gainOf 27 = .ok (.lshl, 1) := by decide +kernel
theorem dX2_gainOf_28 : decode cX2_gainOf 28 = .ok (.lstore 7, 2) := by decide +kernel
theorem dX2_gainOf_30 : decode cX2_gainOf 30 = .ok (.iload 6, 2) := by decide +kernel
theorem dX2_gainOf_32 : decode cX2_gainOf 32 = .ok (.iconst 1, 1) := by decide +kernel
theorem dX2_gainOf_33 : decode cX2_gainOf 33 = .ok (.iadd, 1) := by decide +kernel
theorem dX2_gainOf_34 : decode cX2_gainOf 34 = .ok (.invokestatic 26, 3) := by decide +kernel
theorem dX2_gainOf_37 : decode cX2_gainOf 37 = .ok (.lstore 9, 2) := by decide +kernel
theorem dX2_gainOf_39 : decode cX2_gainOf 39 = .ok (.lload 9, 2) := by decide +kernel
theorem dX2_gainOf_41 : decode cX2_gainOf 41 = .ok (.lconst 0, 1) := by decide +kernel
theorem dX2_gainOf_42 : decode cX2_gainOf 42 = .ok (.lcmp, 1) := by decide +kernel
theorem dX2_gainOf_43 : decode cX2_gainOf 43 = .ok (.ifCond .le 32, 3) := by decide +kernel
theorem dX2_gainOf_46 : decode cX2_gainOf 46 = .ok (.lload 4, 2) := by decide +kernel
theorem dX2_gainOf_48 : decode cX2_gainOf 48 = .ok (.iload_n 3, 1) := by decide +kernel
theorem dX2_gainOf_49 : decode cX2_gainOf 49 = .ok (.ifCond .eq 16, 3) := by decide +kernel
theorem dX2_gainOf_52 : decode cX2_gainOf 52 = .ok (.lload 7, 2) := by decide +kernel
theorem dX2_gainOf_54 : decode cX2_gainOf 54 = .ok (.lload 9, 2) := by decide +kernel
theorem dX2_gainOf_56 : decode cX2_gainOf 56 = .ok (.ladd, 1) := by decide +kernel
theorem dX2_gainOf_57 : decode cX2_gainOf 57 = .ok (.lconst 1, 1) := by decide +kernel
theorem dX2_gainOf_58 : decode cX2_gainOf 58 = .ok (.lsub, 1) := by decide +kernel
theorem dX2_gainOf_59 : decode cX2_gainOf 59 = .ok (.lload 9, 2) := by decide +kernel
theorem dX2_gainOf_61 : decode cX2_gainOf 61 = .ok (.ldiv, 1) := by decide +kernel
theorem dX2_gainOf_62 : decode cX2_gainOf 62 = .ok (.goto 10, 3) := by decide +kernel
theorem dX2_gainOf_65 : decode cX2_gainOf 65 = .ok (.lload 7, 2) := by decide +kernel
theorem dX2_gainOf_67 : decode cX2_gainOf 67 = .ok (.lload 9, 2) := by decide +kernel
theorem dX2_gainOf_69 : decode cX2_gainOf 69 = .ok (.lconst 1, 1) := by decide +kernel
theorem dX2_gainOf_70 : decode cX2_gainOf 70 = .ok (.ladd, 1) := by decide +kernel
theorem dX2_gainOf_71 : decode cX2_gainOf 71 = .ok (.ldiv, 1) := by decide +kernel
theorem dX2_gainOf_72 : decode cX2_gainOf 72 = .ok (.ladd, 1) := by decide +kernel
theorem dX2_gainOf_73 : decode cX2_gainOf 73 = .ok (.lstore 4, 2) := by decide +kernel
theorem dX2_gainOf_75 : decode cX2_gainOf 75 = .ok (.iinc 6 1, 3) := by decide +kernel
theorem dX2_gainOf_78 : decode cX2_gainOf 78 = .ok (.goto (-72), 3) := by decide +kernel
theorem dX2_gainOf_81 : decode cX2_gainOf 81 = .ok (.lload 4, 2) := by decide +kernel
theorem dX2_gainOf_83 : decode cX2_gainOf 83 = .ok (.lreturn, 1) := by decide +kernel
set_option maxRecDepth 20000 in
theorem ggX2_logOf_J6_numberOfLeadingZeros_0f7a4 : GoodIn wsX2_logOf wsJ6_numberOfLeadingZeros_0f7a4 := goodIn_r _ [5, 6] (by decide +kernel) (by decide +kernel)
set_option maxRecDepth 20000 in
theorem gX2_logOf_J6_numberOfLeadingZeros_0f7a4 : GoodIn wsX2_logOf (va_wsS RX2 31 yJ6_numberOfLeadingZeros_0f7a4 wsJ6_numberOfLeadingZeros_0f7a4) := goodIn_app (goodIn_of _ (by decide +kernel)) ggX2_logOf_J6_numberOfLeadingZeros_0f7a4
theorem dX2_logOf_0 : decode cX2_logOf 0 = .ok (.iload_n 0, 1) := by decide +kernel
theorem dX2_logOf_1 : decode cX2_logOf 1 = .ok (.iconst 2, 1) := by decide +kernel
theorem dX2_logOf_2 : decode cX2_logOf 2 = .ok (.if_icmp .ge 5, 3) := by decide +kernel
theorem dX2_logOf_5 : decode cX2_logOf 5 = .ok (.lconst 0, 1) := by decide +kernel
theorem dX2_logOf_6 : decode cX2_logOf 6 = .ok (.lreturn, 1) := by decide +kernel
theorem dX2_logOf_7 : decode cX2_logOf 7 = .ok (.bipush 31, 2) := by decide +kernel
theorem dX2_logOf_9 : decode cX2_logOf 9 = .ok (.iload_n 0, 1) := by decide +kernel
theorem dX2_logOf_10 : decode cX2_logOf 10 = .ok (.invokestatic 31, 3) := by decide +kernel
theorem dX2_logOf_13 : decode cX2_logOf 13 = .ok (.isub, 1) := by decide +kernel
theorem dX2_logOf_14 : decode cX2_logOf 14 = .ok (.istore_n 1, 1) := by decide +kernel
theorem dX2_logOf_15 : decode cX2_logOf 15 = .ok (.iload_n 0, 1) := by decide +kernel
theorem dX2_logOf_16 : decode cX2_logOf 16 = .ok (.i2l, 1) := by decide +kernel
theorem dX2_logOf_17 : decode cX2_logOf 17 = .ok (.bipush 30, 2) := by decide +kernel
theorem dX2_logOf_19 : decode cX2_logOf 19 = .ok (.lshl, 1) := by decide +kernel
theorem dX2_logOf_20 : decode cX2_logOf 20 = .ok (.iload_n 1, 1) := by decide +kernel
theorem dX2_logOf_21 : decode cX2_logOf 21 = .ok (.lshr, 1) := by decide +kernel
theorem dX2_logOf_22 : decode cX2_logOf 22 = .ok (.lstore_n 2, 1) := by decide +kernel
theorem dX2_logOf_23 : decode cX2_logOf 23 = .ok (.iload_n 1, 1) := by decide +kernel
theorem dX2_logOf_24 : decode cX2_logOf 24 = .ok (.i2l, 1) := by decide +kernel
theorem dX2_logOf_25 : decode cX2_logOf 25 = .ok (.lstore 4, 2) := by decide +kernel
theorem dX2_logOf_27 : decode cX2_logOf 27 = .ok (.iconst 0, 1) := by decide +kernel
theorem dX2_logOf_28 : decode cX2_logOf 28 = .ok (.istore 6, 2) := by decide +kernel
theorem dX2_logOf_30 : decode cX2_logOf 30 = .ok (.iload 6, 2) := by decide +kernel
theorem dX2_logOf_32 : decode cX2_logOf 32 = .ok (.bipush 20, 2) := by decide +kernel
theorem dX2_logOf_34 : decode cX2_logOf 34 = .ok (.if_icmp .ge 40, 3) := by decide +kernel
theorem dX2_logOf_37 : decode cX2_logOf 37 = .ok (.lload_n 2, 1) := by decide +kernel
theorem dX2_logOf_38 : decode cX2_logOf 38 = .ok (.lload_n 2, 1) := by decide +kernel
theorem dX2_logOf_39 : decode cX2_logOf 39 = .ok (.lmul, 1) := by decide +kernel
theorem dX2_logOf_40 : decode cX2_logOf 40 = .ok (.bipush 30, 2) := by decide +kernel
theorem dX2_logOf_42 : decode cX2_logOf 42 = .ok (.lshr, 1) := by decide +kernel
theorem dX2_logOf_43 : decode cX2_logOf 43 = .ok (.lstore_n 2, 1) := by decide +kernel
theorem dX2_logOf_44 : decode cX2_logOf 44 = .ok (.lload 4, 2) := by decide +kernel
theorem dX2_logOf_46 : decode cX2_logOf 46 = .ok (.iconst 1, 1) := by decide +kernel
theorem dX2_logOf_47 : decode cX2_logOf 47 = .ok (.lshl, 1) := by decide +kernel
theorem dX2_logOf_48 : decode cX2_logOf 48 = .ok (.lstore 4, 2) := by decide +kernel
theorem dX2_logOf_50 : decode cX2_logOf 50 = .ok (.lload_n 2, 1) := by decide +kernel
theorem dX2_logOf_51 : decode cX2_logOf 51 = .ok (.ldc2_w 36, 3) := by decide +kernel
theorem dX2_logOf_54 : decode cX2_logOf 54 = .ok (.lcmp, 1) := by decide +kernel
theorem dX2_logOf_55 : decode cX2_logOf 55 = .ok (.ifCond .lt 13, 3) := by decide +kernel
theorem dX2_logOf_58 : decode cX2_logOf 58 = .ok (.lload_n 2, 1) := by decide +kernel
theorem dX2_logOf_59 : decode cX2_logOf 59 = .ok (.iconst 1, 1) := by decide +kernel
theorem dX2_logOf_60 : decode cX2_logOf 60 = .ok (.lshr, 1) := by decide +kernel
theorem dX2_logOf_61 : decode cX2_logOf 61 = .ok (.lstore_n 2, 1) := by decide +kernel
theorem dX2_logOf_62 : decode cX2_logOf 62 = .ok (.lload 4, 2) := by decide +kernel
theorem dX2_logOf_64 : decode cX2_logOf 64 = .ok (.lconst 1, 1) := by decide +kernel
theorem dX2_logOf_65 : decode cX2_logOf 65 = .ok (.ladd, 1) := by decide +kernel
theorem dX2_logOf_66 : decode cX2_logOf 66 = .ok (.lstore 4, 2) := by decide +kernel
theorem dX2_logOf_68 : decode cX2_logOf 68 = .ok (.iinc 6 1, 3) := by decide +kernel
theorem dX2_logOf_71 : decode cX2_logOf 71 = .ok (.goto (-41), 3) := by decide +kernel
theorem dX2_logOf_74 : decode cX2_logOf 74 = .ok (.lload 4, 2) := by decide +kernel
theorem dX2_logOf_76 : decode cX2_logOf 76 = .ok (.lreturn, 1) := by decide +kernel
set_option maxRecDepth 20000 in
theorem ggX3_put_X3_goodAmong : GoodIn wsX3_put wsX3_goodAmong := goodIn_r _ [9, 10, 11, 12, 13, 14, 15, 16, 17, 18, 19, 20, 21, 22, 23, 24, 25, 26, 77, 78, 79, 80, 81] (by decide +kernel) (by decide +kernel)
set_option maxRecDepth 20000 in
theorem gX3_put_X3_goodAmong : GoodIn wsX3_put (va_wsS RX3 9 yX3_goodAmong wsX3_goodAmong) := goodIn_app (goodIn_of _ (by decide +kernel)) ggX3_put_X3_goodAmong
set_option maxRecDepth 20000 in
theorem ggX3_put_X1_become : GoodIn wsX3_put wsX1_become := goodIn_r _ [31, 32, 33, 34, 35, 36, 37, 38, 4, 39, 40, 41, 42, 82, 83] (by decide +kernel) (by decide +kernel)
set_option maxRecDepth 20000 in
theorem gX3_put_X1_become : GoodIn wsX3_put (wsV RX3 15 RX1 yX1_become wsX1_become) := goodIn_app (goodIn_of _ (by decide +kernel)) ggX3_put_X1_become
set_option maxRecDepth 20000 in
theorem ggX3_put_X6_goodOnes : GoodIn wsX3_put wsX6_goodOnes := goodIn_r _ [46, 26, 80, 81] (by decide +kernel) (by decide +kernel)
set_option maxRecDepth 20000 in
theorem gX3_put_X6_goodOnes : GoodIn wsX3_put (wsV RX3 21 RX6 yX6_goodOnes wsX6_goodOnes) := goodIn_app (goodIn_of _ (by decide +kernel)) ggX3_put_X6_goodOnes
set_option maxRecDepth 20000 in
theorem ggX3_put_X3_averageParts : GoodIn wsX3_put wsX3_averageParts := goodIn_r _ [49, 1, 10, 11, 12, 13, 14, 15, 16, 17, 18, 19, 20, 21, 22, 23, 24, 25, 26, 77, 78, 79, 80, 81] (by decide +kernel) (by decide +kernel)
set_option maxRecDepth 20000 in
theorem gX3_put_X3_averageParts : GoodIn wsX3_put (va_wsS RX3 27 yX3_averageParts wsX3_averageParts) := goodIn_app (goodIn_of _ (by decide +kernel)) ggX3_put_X3_averageParts
set_option maxRecDepth 20000 in
theorem ggX3_put_X3_firstGoodRank : GoodIn wsX3_put wsX3_firstGoodRank := goodIn_r _ [52, 10, 11, 12, 13, 14, 15, 16, 17, 18, 19, 20, 21, 22, 23, 24, 25, 26, 77, 78, 79, 80, 81] (by decide +kernel) (by decide +kernel)
set_option maxRecDepth 20000 in
theorem gX3_put_X3_firstGoodRank : GoodIn wsX3_put (va_wsS RX3 33 yX3_firstGoodRank wsX3_firstGoodRank) := goodIn_app (goodIn_of _ (by decide +kernel)) ggX3_put_X3_firstGoodRank
set_option maxRecDepth 20000 in
theorem ggX3_put_X3_gainParts : GoodIn wsX3_put wsX3_gainParts := goodIn_r _ [55, 1, 10, 11, 12, 13, 14, 15, 16, 56, 23, 24, 20, 25, 26, 57, 58, 8, 59, 77, 78, 79, 80, 81] (by decide +kernel) (by decide +kernel)
set_option maxRecDepth 20000 in
theorem gX3_put_X3_gainParts : GoodIn wsX3_put (va_wsS RX3 36 yX3_gainParts wsX3_gainParts) := goodIn_app (goodIn_of _ (by decide +kernel)) ggX3_put_X3_gainParts
set_option maxRecDepth 20000 in
theorem ggX3_put_X3_bestGainParts : GoodIn wsX3_put wsX3_bestGainParts := goodIn_r _ [62, 1, 63, 64, 65, 20, 66, 26, 57, 58, 8, 59, 80, 81] (by decide +kernel) (by decide +kernel)
set_option maxRecDepth 20000 in
theorem gX3_put_X3_bestGainParts : GoodIn wsX3_put (va_wsS RX3 39 yX3_bestGainParts wsX3_bestGainParts) := goodIn_app (goodIn_of _ (by decide +kernel)) ggX3_put_X3_bestGainParts
set_option maxRecDepth 20000 in
theorem ggX3_put_X3_putPreference : GoodIn wsX3_put wsX3_putPreference := goodIn_r _ [69, 2, 3, 4, 5, 43, 44, 45, 20, 46, 26, 63, 64, 65, 66, 6, 7, 8, 9, 10, 11, 12, 13, 14, 15, 16, 17, 18, 19, 21, 22, 23, 24, 25, 27, 28, 29, 30, 31, 32, 33, 34, 35, 36, 37, 38, 39, 40, 41, 42, 56, 80, 81, 77, 78, 79, 82, 83] (by decide +kernel) (by decide +kernel)
set_option maxRecDepth 20000 in
theorem gX3_put_X3_putPreference : GoodIn wsX3_put (va_wsS RX3 43 yX3_putPreference wsX3_putPreference) := goodIn_app (goodIn_of _ (by decide +kernel)) ggX3_put_X3_putPreference
set_option maxRecDepth 20000 in
theorem ggX3_put_X7_size : GoodIn wsX3_put wsX7_size := goodIn_r _ [73, 15, 77, 78, 79] (by decide +kernel) (by decide +kernel)
set_option maxRecDepth 20000 in
theorem gX3_put_X7_size : GoodIn wsX3_put (wsV RX3 47 RX7 yX7_size wsX7_size) := goodIn_app (goodIn_of _ (by decide +kernel)) ggX3_put_X7_size
set_option maxRecDepth 20000 in
theorem ggX3_put_X3_judgedAmong : GoodIn wsX3_put wsX3_judgedAmong := goodIn_r _ [76, 10, 11, 12, 13, 14, 15, 16, 56, 23, 24, 20, 25, 26, 77, 78, 79, 80, 81] (by decide +kernel) (by decide +kernel)
set_option maxRecDepth 20000 in
theorem gX3_put_X3_judgedAmong : GoodIn wsX3_put (va_wsS RX3 58 yX3_judgedAmong wsX3_judgedAmong) := goodIn_app (goodIn_of _ (by decide +kernel)) ggX3_put_X3_judgedAmong
theorem dX3_put_0 : decode cX3_put 0 = .ok (.aload_n 1, 1) := by decide +kernel
theorem dX3_put_1 : decode cX3_put 1 = .ok (.aload_n 2, 1) := by decide +kernel
theorem dX3_put_2 : decode cX3_put 2 = .ok (.iload 4, 2) := by decide +kernel
theorem dX3_put_4 : decode cX3_put 4 = .ok (.invokestatic 9, 3) := by decide +kernel
theorem dX3_put_7 : decode cX3_put 7 = .ok (.istore 5, 2) := by decide +kernel
theorem dX3_put_9 : decode cX3_put 9 = .ok (.iload_n 3, 1) := by decide +kernel
theorem dX3_put_10 : decode cX3_put 10 = .ok (.tableswitch 209 0 8 #[50, 63, 78, 101, 117, 134, 154, 165, 191], 50) := by decide +kernel
theorem dX3_put_60 : decode cX3_put 60 = .ok (.aload_n 0, 1) := by decide +kernel
theorem dX3_put_61 : decode cX3_put 61 = .ok (.iload 5, 2) := by decide +kernel
theorem dX3_put_63 : decode cX3_put 63 = .ok (.i2l, 1) := by decide +kernel
theorem dX3_put_64 : decode cX3_put 64 = .ok (.iload 4, 2) := by decide +kernel
theorem dX3_put_66 : decode cX3_put 66 = .ok (.i2l, 1) := by decide +kernel
theorem dX3_put_67 : decode cX3_put 67 = .ok (.invokevirtual 15, 3) := by decide +kernel
theorem dX3_put_70 : decode cX3_put 70 = .ok (.goto 155, 3) := by decide +kernel
theorem dX3_put_73 : decode cX3_put 73 = .ok (.aload_n 0, 1) := by decide +kernel
theorem dX3_put_74 : decode cX3_put 74 = .ok (.iload 5, 2) := by decide +kernel
theorem dX3_put_76 : decode cX3_put 76 = .ok (.i2l, 1) := by decide +kernel
theorem dX3_put_77 : decode cX3_put 77 = .ok (.aload_n 1, 1) := by decide +kernel
theorem dX3_put_78 : decode cX3_put 78 = .ok (.invokevirtual 21, 3) := by decide +kernel
theorem dX3_put_81 : decode cX3_put 81 = .ok (.i2l, 1) := by decide +kernel
theorem dX3_put_82 : decode cX3_put 82 = .ok (.invokevirtual 15, 3) := by decide +kernel
theorem dX3_put_85 : decode cX3_put 85 = .ok (.goto 140, 3) := by decide +kernel
theorem dX3_put_88 : decode cX3_put 88 = .ok (.aload_n 0, 1) := by decide +kernel
theorem dX3_put_89 : decode cX3_put 89 = .ok (.aload_n 1, 1) := by decide +kernel
theorem dX3_put_90 : decode cX3_put 90 = .ok (.aload_n 2, 1) := by decide +kernel
theorem dX3_put_91 : decode cX3_put 91 = .ok (.iload 4, 2) := by decide +kernel
theorem dX3_put_93 : decode cX3_put 93 = .ok (.invokestatic 27, 3) := by decide +kernel
theorem dX3_put_96 : decode cX3_put 96 = .ok (.ldc2_w 31, 3) := by decide +kernel
theorem dX3_put_99 : decode cX3_put 99 = .ok (.aload_n 1, 1) := by decide +kernel
theorem dX3_put_100 : decode cX3_put 100 = .ok (.invokevirtual 21, 3) := by decide +kernel
theorem dX3_put_103 : decode cX3_put 103 = .ok (.i2l, 1) := by decide +kernel
theorem dX3_put_104 : decode cX3_put 104 = .ok (.lmul, 1) := by decide +kernel
theorem dX3_put_105 : decode cX3_put 105 = .ok (.invokevirtual 15, 3) := by decide +kernel
theorem dX3_put_108 : decode cX3_put 108 = .ok (.goto 117, 3) := by decide +kernel
theorem dX3_put_111 : decode cX3_put 111 = .ok (.aload_n 0, 1) := by decide +kernel
theorem dX3_put_112 : decode cX3_put 112 = .ok (.lconst 1, 1) := by decide +kernel
theorem dX3_put_113 : decode cX3_put 113 = .ok (.aload_n 1, 1) := by decide +kernel
theorem dX3_put_114 : decode cX3_put 114 = .ok (.aload_n 2, 1) := by decide +kernel
theorem dX3_put_115 : decode cX3_put 115 = .ok (.iload 4, 2) := by decide +kernel
theorem dX3_put_117 : decode cX3_put 117 = .ok (.invokestatic 33, 3) := by decide +kernel
theorem dX3_put_120 : decode cX3_put 120 = .ok (.i2l, 1) := by decide +kernel
theorem dX3_put_121 : decode cX3_put 121 = .ok (.invokevirtual 15, 3) := by decide +kernel
theorem dX3_put_124 : decode cX3_put 124 = .ok (.goto 101, 3) := by decide +kernel
theorem dX3_put_127 : decode cX3_put 127 = .ok (.aload_n 0, 1) := by decide +kernel
theorem dX3_put_128 : decode cX3_put 128 = .ok (.aload_n 1, 1) := by decide +kernel
theorem dX3_put_129 : decode cX3_put 129 = .ok (.aload_n 2, 1) := by decide +kernel
theorem dX3_put_130 : decode cX3_put 130 = .ok (.iload 4, 2) := by decide +kernel
theorem dX3_put_132 : decode cX3_put 132 = .ok (.invokestatic 36, 3) := by decide +kernel
theorem dX3_put_135 : decode cX3_put 135 = .ok (.ldc2_w 31, 3) := by decide +kernel
theorem dX3_put_138 : decode cX3_put 138 = .ok (.invokevirtual 15, 3) := by decide +kernel
theorem dX3_put_141 : decode cX3_put 141 = .ok (.goto 84, 3) := by decide +kernel
theorem dX3_put_144 : decode cX3_put 144 = .ok (.aload_n 0, 1) := by decide +kernel
theorem dX3_put_145 : decode cX3_put 145 = .ok (.aload_n 1, 1) := by decide +kernel
theorem dX3_put_146 : decode cX3_put 146 = .ok (.aload_n 2, 1) := by decide +kernel
theorem dX3_put_147 : decode cX3_put 147 = .ok (.iload 4, 2) := by decide +kernel
theorem dX3_put_149 : decode cX3_put 149 = .ok (.invokestatic 36, 3) := by decide +kernel
theorem dX3_put_152 : decode cX3_put 152 = .ok (.aload_n 1, 1) := by decide +kernel
theorem dX3_put_153 : decode cX3_put 153 = .ok (.iload 4, 2) := by decide +kernel
theorem dX3_put_155 : decode cX3_put 155 = .ok (.invokestatic 39, 3) := by decide +kernel
theorem dX3_put_158 : decode cX3_put 158 = .ok (.invokevirtual 15, 3) := by decide +kernel
theorem dX3_put_161 : decode cX3_put 161 = .ok (.goto 64, 3) := by decide +kernel
theorem dX3_put_164 : decode cX3_put 164 = .ok (.aload_n 0, 1) := by decide +kernel
theorem dX3_put_165 : decode cX3_put 165 = .ok (.aload_n 1, 1) := by decide +kernel
theorem dX3_put_166 : decode cX3_put 166 = .ok (.aload_n 2, 1) := by decide +kernel
theorem dX3_put_167 : decode cX3_put 167 = .ok (.iload 4, 2) := by decide +kernel
theorem dX3_put_169 : decode cX3_put 169 = .ok (.invokestatic 43, 3) := by decide +kernel
theorem dX3_put_172 : decode cX3_put 172 = .ok (.goto 53, 3) := by decide +kernel
theorem dX3_put_175 : decode cX3_put 175 = .ok (.aload_n 0, 1) := by decide +kernel
theorem dX3_put_176 : decode cX3_put 176 = .ok (.iload 4, 2) := by decide +kernel
theorem dX3_put_178 : decode cX3_put 178 = .ok (.aload_n 2, 1) := by decide +kernel
theorem dX3_put_179 : decode cX3_put 179 = .ok (.invokevirtual 47, 3) := by decide +kernel
theorem dX3_put_182 : decode cX3_put 182 = .ok (.invokestatic 52, 3) := by decide +kernel
theorem dX3_put_185 : decode cX3_put 185 = .ok (.aload_n 1, 1) := by decide +kernel
theorem dX3_put_186 : decode cX3_put 186 = .ok (.aload_n 2, 1) := by decide +kernel
theorem dX3_put_187 : decode cX3_put 187 = .ok (.iload 4, 2) := by decide +kernel
theorem dX3_put_189 : decode cX3_put 189 = .ok (.invokestatic 58, 3) := by decide +kernel
theorem dX3_put_192 : decode cX3_put 192 = .ok (.isub, 1) := by decide +kernel
theorem dX3_put_193 : decode cX3_put 193 = .ok (.i2l, 1) := by decide +kernel
theorem dX3_put_194 : decode cX3_put 194 = .ok (.lconst 1, 1) := by decide +kernel
theorem dX3_put_195 : decode cX3_put 195 = .ok (.invokevirtual 15, 3) := by decide +kernel
theorem dX3_put_198 : decode cX3_put 198 = .ok (.goto 27, 3) := by decide +kernel
theorem dX3_put_201 : decode cX3_put 201 = .ok (.aload_n 0, 1) := by decide +kernel
theorem dX3_put_202 : decode cX3_put 202 = .ok (.iload 5, 2) := by decide +kernel
theorem dX3_put_204 : decode cX3_put 204 = .ok (.i2l, 1) := by decide +kernel
theorem dX3_put_205 : decode cX3_put 205 = .ok (.aload_n 1, 1) := by decide +kernel
theorem dX3_put_206 : decode cX3_put 206 = .ok (.aload_n 2, 1) := by decide +kernel
theorem dX3_put_207 : decode cX3_put 207 = .ok (.iload 4, 2) := by decide +kernel
theorem dX3_put_209 : decode cX3_put 209 = .ok (.invokestatic 58, 3) := by decide +kernel
theorem dX3_put_212 : decode cX3_put 212 = .ok (.i2l, 1) := by decide +kernel
theorem dX3_put_213 : decode cX3_put 213 = .ok (.invokevirtual 15, 3) := by decide +kernel
theorem dX3_put_216 : decode cX3_put 216 = .ok (.goto 9, 3) := by decide +kernel
theorem dX3_put_219 : decode cX3_put 219 = .ok (.aload_n 0, 1) := by decide +kernel
theorem dX3_put_220 : decode cX3_put 220 = .ok (.lconst 0, 1) := by decide +kernel
theorem dX3_put_221 : decode cX3_put 221 = .ok (.lconst 1, 1) := by decide +kernel
theorem dX3_put_222 : decode cX3_put 222 = .ok (.invokevirtual 15, 3) := by decide +kernel
theorem dX3_put_225 : decode cX3_put 225 = .ok (.return_, 1) := by decide +kernel
set_option maxRecDepth 20000 in
theorem ggX3_goodAmong_X7_documentAt : GoodIn wsX3_goodAmong wsX7_documentAt := goodIn_r _ [5, 6, 7, 18, 19, 20] (by decide +kernel) (by decide +kernel)
set_option maxRecDepth 20000 in
theorem gX3_goodAmong_X7_documentAt : GoodIn wsX3_goodAmong (wsV RX3 61 RX7 yX7_documentAt wsX7_documentAt) := goodIn_app (goodIn_of _ (by decide +kernel)) ggX3_goodAmong_X7_documentAt
set_option maxRecDepth 20000 in
theorem ggX3_goodAmong_X6_isGood : GoodIn wsX3_goodAmong wsX6_isGood := goodIn_r _ [12, 13, 14, 15, 11, 16, 17, 21, 22] (by decide +kernel) (by decide +kernel)
set_option maxRecDepth 20000 in
theorem gX3_goodAmong_X6_isGood : GoodIn wsX3_goodAmong (wsV RX3 65 RX6 yX6_isGood wsX6_isGood) := goodIn_app (goodIn_of _ (by decide +kernel)) ggX3_goodAmong_X6_isGood
theorem dX3_goodAmong_0 : decode cX3_goodAmong 0 = .ok (.iconst 0, 1) := by decide +kernel
theorem dX3_goodAmong_1 : decode cX3_goodAmong 1 = .ok (.istore_n 3, 1) := by decide +kernel
theorem dX3_goodAmong_2 : decode cX3_goodAmong 2 = .ok (.iconst 1, 1) := by decide +kernel
theorem dX3_goodAmong_3 : decode cX3_goodAmong 3 = .ok (.istore 4, 2) := by decide +kernel
theorem dX3_goodAmong_5 : decode cX3_goodAmong 5 = .ok (.iload 4, 2) := by decide +kernel
theorem dX3_goodAmong_7 : decode cX3_goodAmong 7 = .ok (.iload_n 2, 1) := by decide +kernel
theorem dX3_goodAmong_8 : decode cX3_goodAmong 8 = .ok (.if_icmp .gt 25, 3) := by decide +kernel
theorem dX3_goodAmong_11 : decode cX3_goodAmong 11 = .ok (.aload_n 0, 1) := by decide +kernel
theorem dX3_goodAmong_12 : decode cX3_goodAmong 12 = .ok (.aload_n 1, 1) := by decide +kernel
theorem dX3_goodAmong_13 : decode cX3_goodAmong 13 = .ok (.iload 4, 2) := by decide +kernel
theorem dX3_goodAmong_15 : decode cX3_goodAmong 15 = .ok (.invokevirtual 61, 3) := by decide +kernel
theorem dX3_goodAmong_18 : decode cX3_goodAmong 18 = .ok (.invokevirtual 65, 3) := by decide +kernel
theorem dX3_goodAmong_21 : decode cX3_goodAmong 21 = .ok (.ifCond .eq 6, 3) := by decide +kernel
theorem dX3_goodAmong_24 : decode cX3_goodAmong 24 = .ok (.iinc 3 1, 3) := by decide +kernel
theorem dX3_goodAmong_27 : decode cX3_goodAmong 27 = .ok (.iinc 4 1, 3) := by decide +kernel
theorem dX3_goodAmong_30 : decode cX3_goodAmong 30 = .ok (.goto (-25), 3) := by decide +kernel
theorem dX3_goodAmong_33 : decode cX3_goodAmong 33 = .ok (.iload_n 3, 1) := by decide +kernel
theorem dX3_goodAmong_34 : decode cX3_goodAmong 34 = .ok (.ireturn, 1) := by decide +kernel
set_option maxRecDepth 20000 in
theorem ggX3_judgedAmong_X7_documentAt : GoodIn wsX3_judgedAmong wsX7_documentAt := goodIn_r _ [5, 6, 7, 14, 15, 16] (by decide +kernel) (by decide +kernel)
set_option maxRecDepth 20000 in
theorem gX3_judgedAmong_X7_documentAt : GoodIn wsX3_judgedAmong (wsV RX3 61 RX7 yX7_documentAt wsX7_documentAt) := goodIn_app (goodIn_of _ (by decide +kernel)) ggX3_judgedAmong_X7_documentAt
set_option maxRecDepth 20000 in
theorem ggX3_judgedAmong_X6_gradeOf : GoodIn wsX3_judgedAmong wsX6_gradeOf := goodIn_r _ [12, 13, 17, 18] (by decide +kernel) (by decide +kernel)
set_option maxRecDepth 20000 in
theorem gX3_judgedAmong_X6_gradeOf : GoodIn wsX3_judgedAmong (wsV RX3 69 RX6 yX6_gradeOf wsX6_gradeOf) := goodIn_app (goodIn_of _ (by decide +kernel)) ggX3_judgedAmong_X6_gradeOf
theorem dX3_judgedAmong_0 : decode cX3_judgedAmong 0 = .ok (.iconst 0, 1) := by decide +kernel
theorem dX3_judgedAmong_1 : decode cX3_judgedAmong 1 = .ok (.istore_n 3, 1) := by decide +kernel
theorem dX3_judgedAmong_2 : decode cX3_judgedAmong 2 = .ok (.iconst 1, 1) := by decide +kernel
theorem dX3_judgedAmong_3 : decode cX3_judgedAmong 3 = .ok (.istore 4, 2) := by decide +kernel
theorem dX3_judgedAmong_5 : decode cX3_judgedAmong 5 = .ok (.iload 4, 2) := by decide +kernel
theorem dX3_judgedAmong_7 : decode cX3_judgedAmong 7 = .ok (.iload_n 2, 1) := by decide +kernel
theorem dX3_judgedAmong_8 : decode cX3_judgedAmong 8 = .ok (.if_icmp .gt 26, 3) := by decide +kernel
theorem dX3_judgedAmong_11 : decode cX3_judgedAmong 11 = .ok (.aload_n 0, 1) := by decide +kernel
theorem dX3_judgedAmong_12 : decode cX3_judgedAmong 12 = .ok (.aload_n 1, 1) := by decide +kernel
theorem dX3_judgedAmong_13 : decode cX3_judgedAmong 13 = .ok (.iload 4, 2) := by decide +kernel
theorem dX3_judgedAmong_15 : decode cX3_judgedAmong 15 = .ok (.invokevirtual 61, 3) := by decide +kernel
theorem dX3_judgedAmong_18 : decode cX3_judgedAmong 18 = .ok (.invokevirtual 69, 3) := by decide +kernel
theorem dX3_judgedAmong_21 : decode cX3_judgedAmong 21 = .ok (.iconst (-1), 1) := by decide +kernel
theorem dX3_judgedAmong_22 : decode cX3_judgedAmong 22 = .ok (.if_icmp .eq 6, 3) := by decide +kernel
theorem dX3_judgedAmong_25 : decode cX3_judgedAmong 25 = .ok (.iinc 3 1, 3) := by decide +kernel
theorem dX3_judgedAmong_28 : decode cX3_judgedAmong 28 = .ok (.iinc 4 1, 3) := by decide +kernel
theorem dX3_judgedAmong_31 : decode cX3_judgedAmong 31 = .ok (.goto (-26), 3) := by decide +kernel
theorem dX3_judgedAmong_34 : decode cX3_judgedAmong 34 = .ok (.iload_n 3, 1) := by decide +kernel
theorem dX3_judgedAmong_35 : decode cX3_judgedAmong 35 = .ok (.ireturn, 1) := by decide +kernel
set_option maxRecDepth 20000 in
theorem ggX3_averageParts_X7_documentAt : GoodIn wsX3_averageParts wsX7_documentAt := goodIn_r _ [6, 7, 8, 19, 20, 21] (by decide +kernel) (by decide +kernel)
set_option maxRecDepth 20000 in
theorem gX3_averageParts_X7_documentAt : GoodIn wsX3_averageParts (wsV RX3 61 RX7 yX7_documentAt wsX7_documentAt) := goodIn_app (goodIn_of _ (by decide +kernel)) ggX3_averageParts_X7_documentAt
set_option maxRecDepth 20000 in
theorem ggX3_averageParts_X6_isGood : GoodIn wsX3_averageParts wsX6_isGood := goodIn_r _ [13, 14, 15, 16, 12, 17, 18, 22, 23] (by decide +kernel) (by decide +kernel)
set_option maxRecDepth 20000 in
theorem gX3_averageParts_X6_isGood : GoodIn wsX3_averageParts (wsV RX3 65 RX6 yX6_isGood wsX6_isGood) := goodIn_app (goodIn_of _ (by decide +kernel)) ggX3_averageParts_X6_isGood
theorem dX3_averageParts_0 : decode cX3_averageParts 0 = .ok (.lconst 0, 1) := by decide +kernel
theorem dX3_averageParts_1 : decode cX3_averageParts 1 = .ok (.lstore_n 3, 1) := by decide +kernel
theorem dX3_averageParts_2 : decode cX3_averageParts 2 = .ok (.iconst 0, 1) := by decide +kernel
theorem dX3_averageParts_3 : decode cX3_averageParts 3 = .ok (.istore 5, 2) := by decide +kernel
theorem dX3_averageParts_5 : decode cX3_averageParts 5 = .ok (.iconst 1, 1) := by decide +kernel
theorem dX3_averageParts_6 : decode cX3_averageParts 6 = .ok (.istore 6, 2) := by decide +kernel
theorem dX3_averageParts_8 : decode cX3_averageParts 8 = .ok (.iload 6, 2) := by decide +kernel
theorem dX3_averageParts_10 : decode cX3_averageParts 10 = .ok (.iload_n 2, 1) := by decide +kernel
theorem dX3_averageParts_11 : decode cX3_averageParts 11 = .ok (.if_icmp .gt 39, 3) := by decide +kernel
theorem dX3_averageParts_14 : decode cX3_averageParts 14 = .ok (.aload_n 0, 1) := by decide +kernel
theorem dX3_averageParts_15 : decode cX3_averageParts 15 = .ok (.aload_n 1, 1) := by decide +kernel
theorem dX3_averageParts_16 : decode cX3_averageParts 16 = .ok (.iload 6, 2) := by decide +kernel
theorem dX3_averageParts_18 : decode cX3_averageParts 18 = .ok (.invokevirtual 61, 3) := by decide +kernel
theorem dX3_averageParts_21 : decode cX3_averageParts 21 = .ok (.invokevirtual 65, 3) := by decide +kernel
theorem dX3_averageParts_24 : decode cX3_averageParts 24 = .ok (.ifCond .eq 20, 3) := by decide +kernel
theorem dX3_averageParts_27 : decode cX3_averageParts 27 = .ok (.iinc 5 1, 3) := by decide +kernel
theorem dX3_averageParts_30 : decode cX3_averageParts 30 = .ok (.lload_n 3, 1) := by decide +kernel
theorem dX3_averageParts_31 : decode cX3_averageParts 31 = .ok (.iload 5, 2) := by decide +kernel
theorem dX3_averageParts_33 : decode cX3_averageParts 33 = .ok (.i2l, 1) := by decide +kernel
theorem dX3_averageParts_34 : decode cX3_averageParts 34 = .ok (.ldc2_w 31, 3) := by decide +kernel
theorem dX3_averageParts_37 : decode cX3_averageParts 37 = .ok (.iload 6, 2) := by decide +kernel
theorem dX3_averageParts_39 : decode cX3_averageParts 39 = .ok (.i2l, 1) := by decide +kernel
theorem dX3_averageParts_40 : decode cX3_averageParts 40 = .ok (.ldiv, 1) := by decide +kernel
theorem dX3_averageParts_41 : decode cX3_averageParts 41 = .ok (.lmul, 1) := by decide +kernel
theorem dX3_averageParts_42 : decode cX3_averageParts 42 = .ok (.ladd, 1) := by decide +kernel
theorem dX3_averageParts_43 : decode cX3_averageParts 43 = .ok (.lstore_n 3, 1) := by decide +kernel
theorem dX3_averageParts_44 : decode cX3_averageParts 44 = .ok (.iinc 6 1, 3) := by decide +kernel
theorem dX3_averageParts_47 : decode cX3_averageParts 47 = .ok (.goto (-39), 3) := by decide +kernel
theorem dX3_averageParts_50 : decode cX3_averageParts 50 = .ok (.lload_n 3, 1) := by decide +kernel
theorem dX3_averageParts_51 : decode cX3_averageParts 51 = .ok (.lreturn, 1) := by decide +kernel
set_option maxRecDepth 20000 in
theorem ggX3_firstGoodRank_X7_documentAt : GoodIn wsX3_firstGoodRank wsX7_documentAt := goodIn_r _ [5, 6, 7, 18, 19, 20] (by decide +kernel) (by decide +kernel)
set_option maxRecDepth 20000 in
theorem gX3_firstGoodRank_X7_documentAt : GoodIn wsX3_firstGoodRank (wsV RX3 61 RX7 yX7_documentAt wsX7_documentAt) := goodIn_app (goodIn_of _ (by decide +kernel)) ggX3_firstGoodRank_X7_documentAt
set_option maxRecDepth 20000 in
theorem ggX3_firstGoodRank_X6_isGood : GoodIn wsX3_firstGoodRank wsX6_isGood := goodIn_r _ [12, 13, 14, 15, 11, 16, 17, 21, 22] (by decide +kernel) (by decide +kernel)
set_option maxRecDepth 20000 in
theorem gX3_firstGoodRank_X6_isGood : GoodIn wsX3_firstGoodRank (wsV RX3 65 RX6 yX6_isGood wsX6_isGood) := goodIn_app (goodIn_of _ (by decide +kernel)) ggX3_firstGoodRank_X6_isGood
theorem dX3_firstGoodRank_0 : decode cX3_firstGoodRank 0 = .ok (.iconst 1, 1) := by decide +kernel
theorem dX3_firstGoodRank_1 : decode cX3_firstGoodRank 1 = .ok (.istore_n 3, 1) := by decide +kernel
theorem dX3_firstGoodRank_2 : decode cX3_firstGoodRank 2 = .ok (.iload_n 3, 1) := by decide +kernel
theorem dX3_firstGoodRank_3 : decode cX3_firstGoodRank 3 = .ok (.iload_n 2, 1) := by decide +kernel
theorem dX3_firstGoodRank_4 : decode cX3_firstGoodRank 4 = .ok (.if_icmp .gt 23, 3) := by decide +kernel
theorem dX3_firstGoodRank_7 : decode cX3_firstGoodRank 7 = .ok (.aload_n 0, 1) := by decide +kernel
theorem dX3_firstGoodRank_8 : decode cX3_firstGoodRank 8 = .ok (.aload_n 1, 1) := by decide +kernel
theorem dX3_firstGoodRank_9 : decode cX3_firstGoodRank 9 = .ok (.iload_n 3, 1) := by decide +kernel
theorem dX3_firstGoodRank_10 : decode cX3_firstGoodRank 10 = .ok (.invokevirtual 61, 3) := by decide +kernel
theorem dX3_firstGoodRank_13 : decode cX3_firstGoodRank 13 = .ok (.invokevirtual 65, 3) := by decide +kernel
theorem dX3_firstGoodRank_16 : decode cX3_firstGoodRank 16 = .ok (.ifCond .eq 5, 3) := by decide +kernel
theorem dX3_firstGoodRank_19 : decode cX3_firstGoodRank 19 = .ok (.iload_n 3, 1) := by decide +kernel
theorem dX3_firstGoodRank_20 : decode cX3_firstGoodRank 20 = .ok (.ireturn, 1) := by decide +kernel
theorem dX3_firstGoodRank_21 : decode cX3_firstGoodRank 21 = .ok (.iinc 3 1, 3) := by decide +kernel
theorem dX3_firstGoodRank_24 : decode cX3_firstGoodRank 24 = .ok (.goto (-22), 3) := by decide +kernel
theorem dX3_firstGoodRank_27 : decode cX3_firstGoodRank 27 = .ok (.iconst 0, 1) := by decide +kernel
theorem dX3_firstGoodRank_28 : decode cX3_firstGoodRank 28 = .ok (.ireturn, 1) := by decide +kernel
set_option maxRecDepth 20000 in
theorem ggX3_gainParts_X7_documentAt : GoodIn wsX3_gainParts wsX7_documentAt := goodIn_r _ [6, 7, 8, 19, 20, 21] (by decide +kernel) (by decide +kernel)
set_option maxRecDepth 20000 in
theorem gX3_gainParts_X7_documentAt : GoodIn wsX3_gainParts (wsV RX3 61 RX7 yX7_documentAt wsX7_documentAt) := goodIn_app (goodIn_of _ (by decide +kernel)) ggX3_gainParts_X7_documentAt
set_option maxRecDepth 20000 in
theorem ggX3_gainParts_X6_gradeOf : GoodIn wsX3_gainParts wsX6_gradeOf := goodIn_r _ [13, 14, 22, 23] (by decide +kernel) (by decide +kernel)
set_option maxRecDepth 20000 in
theorem gX3_gainParts_X6_gradeOf : GoodIn wsX3_gainParts (wsV RX3 69 RX6 yX6_gradeOf wsX6_gradeOf) := goodIn_app (goodIn_of _ (by decide +kernel)) ggX3_gainParts_X6_gradeOf
set_option maxRecDepth 20000 in
theorem ggX3_gainParts_X3_weightOf : GoodIn wsX3_gainParts wsX3_weightOf := goodIn_r _ [18] (by decide +kernel) (by decide +kernel)
set_option maxRecDepth 20000 in
theorem gX3_gainParts_X3_weightOf : GoodIn wsX3_gainParts (va_wsS RX3 72 yX3_weightOf wsX3_weightOf) := goodIn_app (goodIn_of _ (by decide +kernel)) ggX3_gainParts_X3_weightOf
theorem dX3_gainParts_0 : decode cX3_gainParts 0 = .ok (.lconst 0, 1) := by decide +kernel
theorem dX3_gainParts_1 : decode cX3_gainParts 1 = .ok (.lstore_n 3, 1) := by decide +kernel
theorem dX3_gainParts_2 : decode cX3_gainParts 2 = .ok (.iconst 1, 1) := by decide +kernel
theorem dX3_gainParts_3 : decode cX3_gainParts 3 = .ok (.istore 5, 2) := by decide +kernel
theorem dX3_gainParts_5 : decode cX3_gainParts 5 = .ok (.iload 5, 2) := by decide +kernel
theorem dX3_gainParts_7 : decode cX3_gainParts 7 = .ok (.iload_n 2, 1) := by decide +kernel
theorem dX3_gainParts_8 : decode cX3_gainParts 8 = .ok (.if_icmp .gt 33, 3) := by decide +kernel
theorem dX3_gainParts_11 : decode cX3_gainParts 11 = .ok (.lload_n 3, 1) := by decide +kernel
theorem dX3_gainParts_12 : decode cX3_gainParts 12 = .ok (.aload_n 0, 1) := by decide +kernel
theorem dX3_gainParts_13 : decode cX3_gainParts 13 = .ok (.aload_n 1, 1) := by decide +kernel
theorem dX3_gainParts_14 : decode cX3_gainParts 14 = .ok (.iload 5, 2) := by decide +kernel
theorem dX3_gainParts_16 : decode cX3_gainParts 16 = .ok (.invokevirtual 61, 3) := by decide +kernel
theorem dX3_gainParts_19 : decode cX3_gainParts 19 = .ok (.invokevirtual 69, 3) := by decide +kernel
theorem dX3_gainParts_22 : decode cX3_gainParts 22 = .ok (.invokestatic 72, 3) := by decide +kernel
theorem dX3_gainParts_25 : decode cX3_gainParts 25 = .ok (.ldc2_w 31, 3) := by decide +kernel
theorem dX3_gainParts_28 : decode cX3_gainParts 28 = .ok (.iload 5, 2) := by decide +kernel
theorem dX3_gainParts_30 : decode cX3_gainParts 30 = .ok (.i2l, 1) := by decide +kernel
theorem dX3_gainParts_31 : decode cX3_gainParts 31 = .ok (.ldiv, 1) := by decide +kernel
theorem dX3_gainParts_32 : decode cX3_gainParts 32 = .ok (.lmul, 1) := by decide +kernel
theorem dX3_gainParts_33 : decode cX3_gainParts 33 = .ok (.ladd, 1) := by decide +kernel
theorem dX3_gainParts_34 : decode cX3_gainParts 34 = .ok (.lstore_n 3, 1) := by decide +kernel
theorem dX3_gainParts_35 : decode cX3_gainParts 35 = .ok (.iinc 5 1, 3) := by decide +kernel
theorem dX3_gainParts_38 : decode cX3_gainParts 38 = .ok (.goto (-33), 3) := by decide +kernel
theorem dX3_gainParts_41 : decode cX3_gainParts 41 = .ok (.lload_n 3, 1) := by decide +kernel
theorem dX3_gainParts_42 : decode cX3_gainParts 42 = .ok (.lreturn, 1) := by decide +kernel
set_option maxRecDepth 20000 in
theorem ggX3_bestGainParts_X6_gradedWith : GoodIn wsX3_bestGainParts wsX6_gradedWith := goodIn_r _ [6, 7, 12, 13] (by decide +kernel) (by decide +kernel)
set_option maxRecDepth 20000 in
theorem gX3_bestGainParts_X6_gradedWith : GoodIn wsX3_bestGainParts (wsV RX3 76 RX6 yX6_gradedWith wsX6_gradedWith) := goodIn_app (goodIn_of _ (by decide +kernel)) ggX3_bestGainParts_X6_gradedWith
set_option maxRecDepth 20000 in
theorem ggX3_bestGainParts_X3_weightOf : GoodIn wsX3_bestGainParts wsX3_weightOf := goodIn_r _ [11] (by decide +kernel) (by decide +kernel)
set_option maxRecDepth 20000 in
theorem gX3_bestGainParts_X3_weightOf : GoodIn wsX3_bestGainParts (va_wsS RX3 72 yX3_weightOf wsX3_weightOf) := goodIn_app (goodIn_of _ (by decide +kernel)) ggX3_bestGainParts_X3_weightOf
theorem dX3_bestGainParts_0 : decode cX3_bestGainParts 0 = .ok (.lconst 0, 1) := by decide +kernel
theorem dX3_bestGainParts_1 : decode cX3_bestGainParts 1 = .ok (.lstore_n 2, 1) := by decide +kernel
theorem dX3_bestGainParts_2 : decode cX3_bestGainParts 2 = .ok (.iconst 1, 1) := by decide +kernel
theorem dX3_bestGainParts_3 : decode cX3_bestGainParts 3 = .ok (.istore 4, 2) := by decide +kernel
theorem dX3_bestGainParts_5 : decode cX3_bestGainParts 5 = .ok (.iconst 3, 1) := by decide +kernel
theorem dX3_bestGainParts_6 : decode cX3_bestGainParts 6 = .ok (.istore 5, 2) := by decide +kernel
theorem dX3_bestGainParts_8 : decode cX3_bestGainParts 8 = .ok (.iload 5, 2) := by decide +kernel
theorem dX3_bestGainParts_10 : decode cX3_bestGainParts 10 = .ok (.iconst 1, 1) := by decide +kernel
theorem dX3_bestGainParts_11 : decode cX3_bestGainParts 11 = .ok (.if_icmp .lt 61, 3) := by decide +kernel
theorem dX3_bestGainParts_14 : decode cX3_bestGainParts 14 = .ok (.iload 4, 2) := by decide +kernel
theorem dX3_bestGainParts_16 : decode cX3_bestGainParts 16 = .ok (.aload_n 0, 1) := by decide +kernel
theorem dX3_bestGainParts_17 : decode cX3_bestGainParts 17 = .ok (.iload 5, 2) := by decide +kernel
theorem dX3_bestGainParts_19 : decode cX3_bestGainParts 19 = .ok (.invokevirtual 76, 3) := by decide +kernel
theorem dX3_bestGainParts_22 : decode cX3_bestGainParts 22 = .ok (.iadd, 1) := by decide +kernel
theorem dX3_bestGainParts_23 : decode cX3_bestGainParts 23 = .ok (.istore 6, 2) := by decide +kernel
theorem dX3_bestGainParts_25 : decode cX3_bestGainParts 25 = .ok (.iload 4, 2) := by decide +kernel
theorem dX3_bestGainParts_27 : decode cX3_bestGainParts 27 = .ok (.iconst 1, 1) := by decide +kernel
theorem dX3_bestGainParts_28 : decode cX3_bestGainParts 28 = .ok (.if_icmp .lt 38, 3) := by decide +kernel
theorem dX3_bestGainParts_31 : decode cX3_bestGainParts 31 = .ok (.iload 4, 2) := by decide +kernel
theorem dX3_bestGainParts_33 : decode cX3_bestGainParts 33 = .ok (.iload 6, 2) := by decide +kernel
theorem dX3_bestGainParts_35 : decode cX3_bestGainParts 35 = .ok (.if_icmp .ge 31, 3) := by decide +kernel
theorem dX3_bestGainParts_38 : decode cX3_bestGainParts 38 = .ok (.iload 4, 2) := by decide +kernel
theorem dX3_bestGainParts_40 : decode cX3_bestGainParts 40 = .ok (.iload_n 1, 1) := by decide +kernel
theorem dX3_bestGainParts_41 : decode cX3_bestGainParts 41 = .ok (.if_icmp .gt 25, 3) := by decide +kernel
theorem dX3_bestGainParts_44 : decode cX3_bestGainParts 44 = .ok (.lload_n 2, 1) := by decide +kernel
theorem dX3_bestGainParts_45 : decode cX3_bestGainParts 45 = .ok (.iload 5, 2) := by decide +kernel
theorem dX3_bestGainParts_47 : decode cX3_bestGainParts 47 = .ok (.invokestatic 72, 3) := by decide +kernel
theorem dX3_bestGainParts_50 : decode cX3_bestGainParts 50 = .ok (.ldc2_w 31, 3) := by decide +kernel
theorem dX3_bestGainParts_53 : decode cX3_bestGainParts 53 = .ok (.iload 4, 2) := by decide +kernel
theorem dX3_bestGainParts_55 : decode cX3_bestGainParts 55 = .ok (.i2l, 1) := by decide +kernel
theorem dX3_bestGainParts_56 : decode cX3_bestGainParts 56 = .ok (.ldiv, 1) := by decide +kernel
theorem dX3_bestGainParts_57 : decode cX3_bestGainParts 57 = .ok (.lmul, 1) := by decide +kernel
theorem dX3_bestGainParts_58 : decode cX3_bestGainParts 58 = .ok (.ladd, 1) := by decide +kernel
theorem dX3_bestGainParts_59 : decode cX3_bestGainParts 59 = .ok (.lstore_n 2, 1) := by decide +kernel
theorem dX3_bestGainParts_60 : decode cX3_bestGainParts 60 = .ok (.iinc 4 1, 3) := by decide +kernel
theorem dX3_bestGainParts_63 : decode cX3_bestGainParts 63 = .ok (.goto (-38), 3) := by decide +kernel
theorem dX3_bestGainParts_66 : decode cX3_bestGainParts 66 = .ok (.iinc 5 (-1), 3) := by decide +kernel
theorem dX3_bestGainParts_69 : decode cX3_bestGainParts 69 = .ok (.goto (-61), 3) := by decide +kernel
theorem dX3_bestGainParts_72 : decode cX3_bestGainParts 72 = .ok (.lload_n 2, 1) := by decide +kernel
theorem dX3_bestGainParts_73 : decode cX3_bestGainParts 73 = .ok (.lreturn, 1) := by decide +kernel
theorem dX3_weightOf_0 : decode cX3_weightOf 0 = .ok (.iload_n 0, 1) := by decide +kernel
theorem dX3_weightOf_1 : decode cX3_weightOf 1 = .ok (.iconst 1, 1) := by decide +kernel
theorem dX3_weightOf_2 : decode cX3_weightOf 2 = .ok (.if_icmp .lt 16, 3) := by decide +kernel
theorem dX3_weightOf_5 : decode cX3_weightOf 5 = .ok (.iload_n 0, 1) := by decide +kernel
theorem dX3_weightOf_6 : decode cX3_weightOf 6 = .ok (.iconst 3, 1) := by decide +kernel
theorem dX3_weightOf_7 : decode cX3_weightOf 7 = .ok (.if_icmp .gt 11, 3) := by decide +kernel
theorem dX3_weightOf_10 : decode cX3_weightOf 10 = .ok (.lconst 1, 1) := by decide +kernel
theorem dX3_weightOf_11 : decode cX3_weightOf 11 = .ok (.iload_n 0, 1) := by decide +kernel
theorem dX3_weightOf_12 : decode cX3_weightOf 12 = .ok (.lshl, 1) := by decide +kernel
theorem dX3_weightOf_13 : decode cX3_weightOf 13 = .ok (.lconst 1, 1) := by decide +kernel
theorem dX3_weightOf_14 : decode cX3_weightOf 14 = .ok (.lsub, 1) := by decide +kernel
theorem dX3_weightOf_15 : decode cX3_weightOf 15 = .ok (.goto 4, 3) := by decide +kernel
theorem dX3_weightOf_18 : decode cX3_weightOf 18 = .ok (.lconst 0, 1) := by decide +kernel
theorem dX3_weightOf_19 : decode cX3_weightOf 19 = .ok (.lreturn, 1) := by decide +kernel
set_option maxRecDepth 20000 in
theorem ggX3_putPreference_X6_goodOnes : GoodIn wsX3_putPreference wsX6_goodOnes := goodIn_r _ [9, 10, 51, 52] (by decide +kernel) (by decide +kernel)
set_option maxRecDepth 20000 in
theorem gX3_putPreference_X6_goodOnes : GoodIn wsX3_putPreference (wsV RX3 21 RX6 yX6_goodOnes wsX6_goodOnes) := goodIn_app (goodIn_of _ (by decide +kernel)) ggX3_putPreference_X6_goodOnes
set_option maxRecDepth 20000 in
theorem ggX3_putPreference_X6_gradedWith : GoodIn wsX3_putPreference wsX6_gradedWith := goodIn_r _ [14, 10, 51, 52] (by decide +kernel) (by decide +kernel)
set_option maxRecDepth 20000 in
theorem gX3_putPreference_X6_gradedWith : GoodIn wsX3_putPreference (wsV RX3 76 RX6 yX6_gradedWith wsX6_gradedWith) := goodIn_app (goodIn_of _ (by decide +kernel)) ggX3_putPreference_X6_gradedWith
set_option maxRecDepth 20000 in
theorem ggX3_putPreference_X3_goodAmong : GoodIn wsX3_putPreference wsX3_goodAmong := goodIn_r _ [18, 19, 20, 21, 22, 23, 24, 25, 26, 27, 28, 8, 29, 30, 31, 32, 33, 10, 53, 54, 55, 51, 52] (by decide +kernel) (by decide +kernel)
set_option maxRecDepth 20000 in
theorem gX3_putPreference_X3_goodAmong : GoodIn wsX3_putPreference (va_wsS RX3 9 yX3_goodAmong wsX3_goodAmong) := goodIn_app (goodIn_of _ (by decide +kernel)) ggX3_putPreference_X3_goodAmong
set_option maxRecDepth 20000 in
theorem ggX3_putPreference_X1_become : GoodIn wsX3_putPreference wsX1_become := goodIn_r _ [38, 39, 40, 41, 42, 43, 44, 45, 3, 46, 47, 48, 49, 56, 57] (by decide +kernel) (by decide +kernel)
set_option maxRecDepth 20000 in
theorem gX3_putPreference_X1_become : GoodIn wsX3_putPreference (wsV RX3 15 RX1 yX1_become wsX1_become) := goodIn_app (goodIn_of _ (by decide +kernel)) ggX3_putPreference_X1_become
set_option maxRecDepth 20000 in
theorem ggX3_putPreference_X7_documentAt : GoodIn wsX3_putPreference wsX7_documentAt := goodIn_r _ [23, 24, 25, 53, 54, 55] (by decide +kernel) (by decide +kernel)
set_option maxRecDepth 20000 in
theorem gX3_putPreference_X7_documentAt : GoodIn wsX3_putPreference (wsV RX3 61 RX7 yX7_documentAt wsX7_documentAt) := goodIn_app (goodIn_of _ (by decide +kernel)) ggX3_putPreference_X7_documentAt
set_option maxRecDepth 20000 in
theorem ggX3_putPreference_X6_gradeOf : GoodIn wsX3_putPreference wsX6_gradeOf := goodIn_r _ [33, 10, 51, 52] (by decide +kernel) (by decide +kernel)
set_option maxRecDepth 20000 in
theorem gX3_putPreference_X6_gradeOf : GoodIn wsX3_putPreference (wsV RX3 69 RX6 yX6_gradeOf wsX6_gradeOf) := goodIn_app (goodIn_of _ (by decide +kernel)) ggX3_putPreference_X6_gradeOf
theorem dX3_putPreference_0 : decode cX3_putPreference 0 = .ok (.aload_n 1, 1) := by decide +kernel
theorem dX3_putPreference_1 : decode cX3_putPreference 1 = .ok (.invokevirtual 21, 3) := by decide +kernel
theorem dX3_putPreference_4 : decode cX3_putPreference 4 = .ok (.istore 4, 2) := by decide +kernel
theorem dX3_putPreference_6 : decode cX3_putPreference 6 = .ok (.iload 4, 2) := by decide +kernel
theorem dX3_putPreference_8 : decode cX3_putPreference 8 = .ok (.aload_n 1, 1) := by decide +kernel
theorem dX3_putPreference_9 : decode cX3_putPreference 9 = .ok (.iconst 0, 1) := by decide +kernel
theorem dX3_putPreference_10 : decode cX3_putPreference 10 = .ok (.invokevirtual 76, 3) := by decide +kernel
theorem dX3_putPreference_13 : decode cX3_putPreference 13 = .ok (.invokestatic 52, 3) := by decide +kernel
theorem dX3_putPreference_16 : decode cX3_putPreference 16 = .ok (.istore 5, 2) := by decide +kernel
theorem dX3_putPreference_18 : decode cX3_putPreference 18 = .ok (.iload 5, 2) := by decide +kernel
theorem dX3_putPreference_20 : decode cX3_putPreference 20 = .ok (.ifCond .ne 18, 3) := by decide +kernel
theorem dX3_putPreference_23 : decode cX3_putPreference 23 = .ok (.aload_n 0, 1) := by decide +kernel
theorem dX3_putPreference_24 : decode cX3_putPreference 24 = .ok (.aload_n 1, 1) := by decide +kernel
theorem dX3_putPreference_25 : decode cX3_putPreference 25 = .ok (.aload_n 2, 1) := by decide +kernel
theorem dX3_putPreference_26 : decode cX3_putPreference 26 = .ok (.iload_n 3, 1) := by decide +kernel
theorem dX3_putPreference_27 : decode cX3_putPreference 27 = .ok (.invokestatic 9, 3) := by decide +kernel
theorem dX3_putPreference_30 : decode cX3_putPreference 30 = .ok (.i2l, 1) := by decide +kernel
theorem dX3_putPreference_31 : decode cX3_putPreference 31 = .ok (.iload 4, 2) := by decide +kernel
theorem dX3_putPreference_33 : decode cX3_putPreference 33 = .ok (.i2l, 1) := by decide +kernel
theorem dX3_putPreference_34 : decode cX3_putPreference 34 = .ok (.invokevirtual 15, 3) := by decide +kernel
theorem dX3_putPreference_37 : decode cX3_putPreference 37 = .ok (.return_, 1) := by decide +kernel
theorem dX3_putPreference_38 : decode cX3_putPreference 38 = .ok (.lconst 0, 1) := by decide +kernel
theorem dX3_putPreference_39 : decode cX3_putPreference 39 = .ok (.lstore 6, 2) := by decide +kernel
theorem dX3_putPreference_41 : decode cX3_putPreference 41 = .ok (.iconst 0, 1) := by decide +kernel
theorem dX3_putPreference_42 : decode cX3_putPreference 42 = .ok (.istore 8, 2) := by decide +kernel
theorem dX3_putPreference_44 : decode cX3_putPreference 44 = .ok (.iconst 1, 1) := by decide +kernel
theorem dX3_putPreference_45 : decode cX3_putPreference 45 = .ok (.istore 9, 2) := by decide +kernel
theorem dX3_putPreference_47 : decode cX3_putPreference 47 = .ok (.iload 9, 2) := by decide +kernel
theorem dX3_putPreference_49 : decode cX3_putPreference 49 = .ok (.iload_n 3, 1) := by decide +kernel
theorem dX3_putPreference_50 : decode cX3_putPreference 50 = .ok (.if_icmp .gt 54, 3) := by decide +kernel
theorem dX3_putPreference_53 : decode cX3_putPreference 53 = .ok (.aload_n 1, 1) := by decide +kernel
theorem dX3_putPreference_54 : decode cX3_putPreference 54 = .ok (.aload_n 2, 1) := by decide +kernel
theorem dX3_putPreference_55 : decode cX3_putPreference 55 = .ok (.iload 9, 2) := by decide +kernel
theorem dX3_putPreference_57 : decode cX3_putPreference 57 = .ok (.invokevirtual 61, 3) := by decide +kernel
theorem dX3_putPreference_60 : decode cX3_putPreference 60 = .ok (.invokevirtual 69, 3) := by decide +kernel
theorem dX3_putPreference_63 : decode cX3_putPreference 63 = .ok (.istore 10, 2) := by decide +kernel
theorem dX3_putPreference_65 : decode cX3_putPreference 65 = .ok (.iload 10, 2) := by decide +kernel
theorem dX3_putPreference_67 : decode cX3_putPreference 67 = .ok (.ifCond .ne 9, 3) := by decide +kernel
theorem dX3_putPreference_70 : decode cX3_putPreference 70 = .ok (.iinc 8 1, 3) := by decide +kernel
theorem dX3_putPreference_73 : decode cX3_putPreference 73 = .ok (.goto 25, 3) := by decide +kernel
theorem dX3_putPreference_76 : decode cX3_putPreference 76 = .ok (.iload 10, 2) := by decide +kernel
theorem dX3_putPreference_78 : decode cX3_putPreference 78 = .ok (.iconst 1, 1) := by decide +kernel
theorem dX3_putPreference_79 : decode cX3_putPreference 79 = .ok (.if_icmp .lt 19, 3) := by decide +kernel
theorem dX3_putPreference_82 : decode cX3_putPreference 82 = .ok (.lload 6, 2) := by decide +kernel
theorem dX3_putPreference_84 : decode cX3_putPreference 84 = .ok (.iload 5, 2) := by decide +kernel
theorem dX3_putPreference_86 : decode cX3_putPreference 86 = .ok (.iload 8, 2) := by decide +kernel
theorem dX3_putPreference_88 : decode cX3_putPreference 88 = .ok (.iload 5, 2) := by decide +kernel
theorem dX3_putPreference_90 : decode cX3_putPreference 90 = .ok (.invokestatic 52, 3) := by decide +kernel
theorem dX3_putPreference_93 : decode cX3_putPreference 93 = .ok (.isub, 1) := by decide +kernel
theorem dX3_putPreference_94 : decode cX3_putPreference 94 = .ok (.i2l, 1) := by decide +kernel
theorem dX3_putPreference_95 : decode cX3_putPreference 95 = .ok (.ladd, 1) := by decide +kernel
theorem dX3_putPreference_96 : decode cX3_putPreference 96 = .ok (.lstore 6, 2) := by decide +kernel
theorem dX3_putPreference_98 : decode cX3_putPreference 98 = .ok (.iinc 9 1, 3) := by decide +kernel
theorem dX3_putPreference_101 : decode cX3_putPreference 101 = .ok (.goto (-54), 3) := by decide +kernel
theorem dX3_putPreference_104 : decode cX3_putPreference 104 = .ok (.aload_n 0, 1) := by decide +kernel
theorem dX3_putPreference_105 : decode cX3_putPreference 105 = .ok (.lload 6, 2) := by decide +kernel
theorem dX3_putPreference_107 : decode cX3_putPreference 107 = .ok (.iload 5, 2) := by decide +kernel
theorem dX3_putPreference_109 : decode cX3_putPreference 109 = .ok (.i2l, 1) := by decide +kernel
theorem dX3_putPreference_110 : decode cX3_putPreference 110 = .ok (.iload 4, 2) := by decide +kernel
theorem dX3_putPreference_112 : decode cX3_putPreference 112 = .ok (.i2l, 1) := by decide +kernel
theorem dX3_putPreference_113 : decode cX3_putPreference 113 = .ok (.lmul, 1) := by decide +kernel
theorem dX3_putPreference_114 : decode cX3_putPreference 114 = .ok (.invokevirtual 15, 3) := by decide +kernel
theorem dX3_putPreference_117 : decode cX3_putPreference 117 = .ok (.return_, 1) := by decide +kernel
theorem dX4_init_0 : decode cX4_init 0 = .ok (.aload_n 0, 1) := by decide +kernel
theorem dX4_init_1 : decode cX4_init 1 = .ok (.invokespecial 3, 3) := by decide +kernel
theorem dX4_init_4 : decode cX4_init 4 = .ok (.aload_n 0, 1) := by decide +kernel
theorem dX4_init_5 : decode cX4_init 5 = .ok (.bipush 16, 2) := by decide +kernel
theorem dX4_init_7 : decode cX4_init 7 = .ok (.newarray .int, 2) := by decide +kernel
theorem dX4_init_9 : decode cX4_init 9 = .ok (.putfield 9, 3) := by decide +kernel
theorem dX4_init_12 : decode cX4_init 12 = .ok (.aload_n 0, 1) := by decide +kernel
theorem dX4_init_13 : decode cX4_init 13 = .ok (.bipush 16, 2) := by decide +kernel
theorem dX4_init_15 : decode cX4_init 15 = .ok (.newarray .boolean, 2) := by decide +kernel
theorem dX4_init_17 : decode cX4_init 17 = .ok (.putfield 15, 3) := by decide +kernel
theorem dX4_init_20 : decode cX4_init 20 = .ok (.return_, 1) := by decide +kernel
theorem dX4_firstClicks_0 : decode cX4_firstClicks 0 = .ok (.aload_n 0, 1) := by decide +kernel
theorem dX4_firstClicks_1 : decode cX4_firstClicks 1 = .ok (.getfield 19, 3) := by decide +kernel
theorem dX4_firstClicks_4 : decode cX4_firstClicks 4 = .ok (.ireturn, 1) := by decide +kernel
theorem dX4_secondClicks_0 : decode cX4_secondClicks 0 = .ok (.aload_n 0, 1) := by decide +kernel
theorem dX4_secondClicks_1 : decode cX4_secondClicks 1 = .ok (.getfield 23, 3) := by decide +kernel
theorem dX4_secondClicks_4 : decode cX4_secondClicks 4 = .ok (.ireturn, 1) := by decide +kernel
theorem dX4_documentAt_0 : decode cX4_documentAt 0 = .ok (.iload_n 1, 1) := by decide +kernel
theorem dX4_documentAt_1 : decode cX4_documentAt 1 = .ok (.ifCond .lt 26, 3) := by decide +kernel
theorem dX4_documentAt_4 : decode cX4_documentAt 4 = .ok (.iload_n 1, 1) := by decide +kernel
theorem dX4_documentAt_5 : decode cX4_documentAt 5 = .ok (.aload_n 0, 1) := by decide +kernel
theorem dX4_documentAt_6 : decode cX4_documentAt 6 = .ok (.getfield 26, 3) := by decide +kernel
theorem dX4_documentAt_9 : decode cX4_documentAt 9 = .ok (.if_icmp .ge 18, 3) := by decide +kernel
theorem dX4_documentAt_12 : decode cX4_documentAt 12 = .ok (.iload_n 1, 1) := by decide +kernel
theorem dX4_documentAt_13 : decode cX4_documentAt 13 = .ok (.bipush 16, 2) := by decide +kernel
theorem dX4_documentAt_15 : decode cX4_documentAt 15 = .ok (.if_icmp .ge 12, 3) := by decide +kernel
theorem dX4_documentAt_18 : decode cX4_documentAt 18 = .ok (.aload_n 0, 1) := by decide +kernel
theorem dX4_documentAt_19 : decode cX4_documentAt 19 = .ok (.getfield 9, 3) := by decide +kernel
theorem dX4_documentAt_22 : decode cX4_documentAt 22 = .ok (.iload_n 1, 1) := by decide +kernel
theorem dX4_documentAt_23 : decode cX4_documentAt 23 = .ok (.iaload, 1) := by decide +kernel
theorem dX4_documentAt_24 : decode cX4_documentAt 24 = .ok (.goto 4, 3) := by decide +kernel
theorem dX4_documentAt_27 : decode cX4_documentAt 27 = .ok (.iconst (-1), 1) := by decide +kernel
theorem dX4_documentAt_28 : decode cX4_documentAt 28 = .ok (.ireturn, 1) := by decide +kernel
theorem dX4_isFromSecond_0 : decode cX4_isFromSecond 0 = .ok (.iload_n 1, 1) := by decide +kernel
theorem dX4_isFromSecond_1 : decode cX4_isFromSecond 1 = .ok (.ifCond .lt 22, 3) := by decide +kernel
theorem dX4_isFromSecond_4 : decode cX4_isFromSecond 4 = .ok (.iload_n 1, 1) := by decide +kernel
theorem dX4_isFromSecond_5 : decode cX4_isFromSecond 5 = .ok (.bipush 16, 2) := by decide +kernel
theorem dX4_isFromSecond_7 : decode cX4_isFromSecond 7 = .ok (.if_icmp .ge 16, 3) := by decide +kernel
theorem dX4_isFromSecond_10 : decode cX4_isFromSecond 10 = .ok (.aload_n 0, 1) := by decide +kernel
theorem dX4_isFromSecond_11 : decode cX4_isFromSecond 11 = .ok (.getfield 15, 3) := by decide +kernel
theorem dX4_isFromSecond_14 : decode cX4_isFromSecond 14 = .ok (.iload_n 1, 1) := by decide +kernel
theorem dX4_isFromSecond_15 : decode cX4_isFromSecond 15 = .ok (.baload, 1) := by decide +kernel
theorem dX4_isFromSecond_16 : decode cX4_isFromSecond 16 = .ok (.ifCond .eq 7, 3) := by decide +kernel
theorem dX4_isFromSecond_19 : decode cX4_isFromSecond 19 = .ok (.iconst 1, 1) := by decide +kernel
theorem dX4_isFromSecond_20 : decode cX4_isFromSecond 20 = .ok (.goto 4, 3) := by decide +kernel
theorem dX4_isFromSecond_23 : decode cX4_isFromSecond 23 = .ok (.iconst 0, 1) := by decide +kernel
theorem dX4_isFromSecond_24 : decode cX4_isFromSecond 24 = .ok (.ireturn, 1) := by decide +kernel
set_option maxRecDepth 20000 in
theorem ggX4_lay_X4_canLay : GoodIn wsX4_lay wsX4_canLay := goodIn_r _ [8, 2, 9, 10, 11, 7, 12, 3, 13, 14, 15, 16, 17, 18, 19, 20, 21, 22, 23, 36, 37, 38, 39, 40, 41, 42, 43, 44, 45] (by decide +kernel) (by decide +kernel)
set_option maxRecDepth 20000 in
theorem gX4_lay_X4_canLay : GoodIn wsX4_lay (wsV RX4 35 RX4 yX4_canLay wsX4_canLay) := goodIn_app (goodIn_of _ (by decide +kernel)) ggX4_lay_X4_canLay
set_option maxRecDepth 20000 in
theorem ggX4_lay_X4_draw : GoodIn wsX4_lay wsX4_draw := goodIn_r _ [27, 28, 1, 29, 36, 37, 38, 39, 40, 41, 42] (by decide +kernel) (by decide +kernel)
set_option maxRecDepth 20000 in
theorem gX4_lay_X4_draw : GoodIn wsX4_lay (wsV RX4 39 RX4 yX4_draw wsX4_draw) := goodIn_app (goodIn_of _ (by decide +kernel)) ggX4_lay_X4_draw
set_option maxRecDepth 20000 in
theorem ggX4_lay_X4_layNext : GoodIn wsX4_lay wsX4_layNext := goodIn_r _ [33, 2, 34, 35, 3, 9, 10, 11, 7, 12, 13, 14, 15, 16, 17, 18, 19, 20, 21, 22, 23, 36, 37, 38, 39, 40, 41, 42, 43, 44, 45] (by decide +kernel) (by decide +kernel)
set_option maxRecDepth 20000 in
theorem gX4_lay_X4_layNext : GoodIn wsX4_lay (wsV RX4 43 RX4 yX4_layNext wsX4_layNext) := goodIn_app (goodIn_of _ (by decide +kernel)) ggX4_lay_X4_layNext
theorem dX4_lay_0 : decode cX4_lay 0 = .ok (.aload_n 0, 1) := by decide +kernel
theorem dX4_lay_1 : decode cX4_lay 1 = .ok (.iload_n 3, 1) := by decide +kernel
theorem dX4_lay_2 : decode cX4_lay 2 = .ok (.putfield 29, 3) := by decide +kernel
theorem dX4_lay_5 : decode cX4_lay 5 = .ok (.aload_n 0, 1) := by decide +kernel
theorem dX4_lay_6 : decode cX4_lay 6 = .ok (.iconst 0, 1) := by decide +kernel
theorem dX4_lay_7 : decode cX4_lay 7 = .ok (.putfield 26, 3) := by decide +kernel
theorem dX4_lay_10 : decode cX4_lay 10 = .ok (.aload_n 0, 1) := by decide +kernel
theorem dX4_lay_11 : decode cX4_lay 11 = .ok (.iconst 0, 1) := by decide +kernel
theorem dX4_lay_12 : decode cX4_lay 12 = .ok (.putfield 32, 3) := by decide +kernel
theorem dX4_lay_15 : decode cX4_lay 15 = .ok (.iconst 0, 1) := by decide +kernel
theorem dX4_lay_16 : decode cX4_lay 16 = .ok (.istore 4, 2) := by decide +kernel
theorem dX4_lay_18 : decode cX4_lay 18 = .ok (.iload 4, 2) := by decide +kernel
theorem dX4_lay_20 : decode cX4_lay 20 = .ok (.bipush 16, 2) := by decide +kernel
theorem dX4_lay_22 : decode cX4_lay 22 = .ok (.if_icmp .ge 54, 3) := by decide +kernel
theorem dX4_lay_25 : decode cX4_lay 25 = .ok (.aload_n 0, 1) := by decide +kernel
theorem dX4_lay_26 : decode cX4_lay 26 = .ok (.aload_n 1, 1) := by decide +kernel
theorem dX4_lay_27 : decode cX4_lay 27 = .ok (.aload_n 2, 1) := by decide +kernel
theorem dX4_lay_28 : decode cX4_lay 28 = .ok (.invokevirtual 35, 3) := by decide +kernel
theorem dX4_lay_31 : decode cX4_lay 31 = .ok (.ifCond .eq 45, 3) := by decide +kernel
theorem dX4_lay_34 : decode cX4_lay 34 = .ok (.aload_n 0, 1) := by decide +kernel
theorem dX4_lay_35 : decode cX4_lay 35 = .ok (.invokevirtual 39, 3) := by decide +kernel
theorem dX4_lay_38 : decode cX4_lay 38 = .ok (.iconst 2, 1) := by decide +kernel
theorem dX4_lay_39 : decode cX4_lay 39 = .ok (.irem, 1) := by decide +kernel
theorem dX4_lay_40 : decode cX4_lay 40 = .ok (.ifCond .ne 18, 3) := by decide +kernel
theorem dX4_lay_43 : decode cX4_lay 43 = .ok (.aload_n 0, 1) := by decide +kernel
theorem dX4_lay_44 : decode cX4_lay 44 = .ok (.aload_n 1, 1) := by decide +kernel
theorem dX4_lay_45 : decode cX4_lay 45 = .ok (.iconst 0, 1) := by decide +kernel
theorem dX4_lay_46 : decode cX4_lay 46 = .ok (.invokevirtual 43, 3) := by decide +kernel
theorem dX4_lay_49 : decode cX4_lay 49 = .ok (.aload_n 0, 1) := by decide +kernel
theorem dX4_lay_50 : decode cX4_lay 50 = .ok (.aload_n 2, 1) := by decide +kernel
theorem dX4_lay_51 : decode cX4_lay 51 = .ok (.iconst 1, 1) := by decide +kernel
theorem dX4_lay_52 : decode cX4_lay 52 = .ok (.invokevirtual 43, 3) := by decide +kernel
theorem dX4_lay_55 : decode cX4_lay 55 = .ok (.goto 15, 3) := by decide +kernel
theorem dX4_lay_58 : decode cX4_lay 58 = .ok (.aload_n 0, 1) := by decide +kernel
theorem dX4_lay_59 : decode cX4_lay 59 = .ok (.aload_n 2, 1) := by decide +kernel
theorem dX4_lay_60 : decode cX4_lay 60 = .ok (.iconst 1, 1) := by decide +kernel
theorem dX4_lay_61 : decode cX4_lay 61 = .ok (.invokevirtual 43, 3) := by decide +kernel
theorem dX4_lay_64 : decode cX4_lay 64 = .ok (.aload_n 0, 1) := by decide +kernel
theorem dX4_lay_65 : decode cX4_lay 65 = .ok (.aload_n 1, 1) := by decide +kernel
theorem dX4_lay_66 : decode cX4_lay 66 = .ok (.iconst 0, 1) := by decide +kernel
theorem dX4_lay_67 : decode cX4_lay 67 = .ok (.invokevirtual 43, 3) := by decide +kernel
theorem dX4_lay_70 : decode cX4_lay 70 = .ok (.iinc 4 1, 3) := by decide +kernel
theorem dX4_lay_73 : decode cX4_lay 73 = .ok (.goto (-55), 3) := by decide +kernel
theorem dX4_lay_76 : decode cX4_lay 76 = .ok (.return_, 1) := by decide +kernel
set_option maxRecDepth 20000 in
theorem ggX4_click_X4_draw : GoodIn wsX4_click wsX4_draw := goodIn_r _ [10, 11, 12, 13, 23, 24, 25, 26, 27, 28, 29] (by decide +kernel) (by decide +kernel)
set_option maxRecDepth 20000 in
theorem gX4_click_X4_draw : GoodIn wsX4_click (wsV RX4 39 RX4 yX4_draw wsX4_draw) := goodIn_app (goodIn_of _ (by decide +kernel)) ggX4_click_X4_draw
set_option maxRecDepth 20000 in
theorem ggX4_click_X6_gradeOf : GoodIn wsX4_click wsX6_gradeOf := goodIn_r _ [18, 19, 30, 31] (by decide +kernel) (by decide +kernel)
set_option maxRecDepth 20000 in
theorem gX4_click_X6_gradeOf : GoodIn wsX4_click (wsV RX4 47 RX6 yX6_gradeOf wsX6_gradeOf) := goodIn_app (goodIn_of _ (by decide +kernel)) ggX4_click_X6_gradeOf
set_option maxRecDepth 20000 in
theorem ggX4_click_X4_clickChance : GoodIn wsX4_click wsX4_clickChance := goodIn_r _ [22] (by decide +kernel) (by decide +kernel)
set_option maxRecDepth 20000 in
theorem gX4_click_X4_clickChance : GoodIn wsX4_click (va_wsS RX4 53 yX4_clickChance wsX4_clickChance) := goodIn_app (goodIn_of _ (by decide +kernel)) ggX4_click_X4_clickChance
theorem dX4_click_0 : decode cX4_click 0 = .ok (.aload_n 0, 1) := by decide +kernel
theorem dX4_click_1 : decode cX4_click 1 = .ok (.iconst 0, 1) := by decide +kernel
theorem dX4_click_2 : decode cX4_click 2 = .ok (.putfield 19, 3) := by decide +kernel
theorem dX4_click_5 : decode cX4_click 5 = .ok (.aload_n 0, 1) := by decide +kernel
theorem dX4_click_6 : decode cX4_click 6 = .ok (.iconst 0, 1) := by decide +kernel
theorem dX4_click_7 : decode cX4_click 7 = .ok (.putfield 23, 3) := by decide +kernel
theorem dX4_click_10 : decode cX4_click 10 = .ok (.iconst 0, 1) := by decide +kernel
theorem dX4_click_11 : decode cX4_click 11 = .ok (.istore_n 2, 1) := by decide +kernel
theorem dX4_click_12 : decode cX4_click 12 = .ok (.iconst 0, 1) := by decide +kernel
theorem dX4_click_13 : decode cX4_click 13 = .ok (.istore_n 3, 1) := by decide +kernel
theorem dX4_click_14 : decode cX4_click 14 = .ok (.iload_n 3, 1) := by decide +kernel
theorem dX4_click_15 : decode cX4_click 15 = .ok (.aload_n 0, 1) := by decide +kernel
theorem dX4_click_16 : decode cX4_click 16 = .ok (.getfield 26, 3) := by decide +kernel
theorem dX4_click_19 : decode cX4_click 19 = .ok (.if_icmp .ge 92, 3) := by decide +kernel
theorem dX4_click_22 : decode cX4_click 22 = .ok (.iload_n 3, 1) := by decide +kernel
theorem dX4_click_23 : decode cX4_click 23 = .ok (.bipush 16, 2) := by decide +kernel
theorem dX4_click_25 : decode cX4_click 25 = .ok (.if_icmp .ge 86, 3) := by decide +kernel
theorem dX4_click_28 : decode cX4_click 28 = .ok (.iload_n 2, 1) := by decide +kernel
theorem dX4_click_29 : decode cX4_click 29 = .ok (.ifCond .ne 82, 3) := by decide +kernel
theorem dX4_click_32 : decode cX4_click 32 = .ok (.aload_n 0, 1) := by decide +kernel
theorem dX4_click_33 : decode cX4_click 33 = .ok (.invokevirtual 39, 3) := by decide +kernel
theorem dX4_click_36 : decode cX4_click 36 = .ok (.bipush 100, 2) := by decide +kernel
theorem dX4_click_38 : decode cX4_click 38 = .ok (.irem, 1) := by decide +kernel
theorem dX4_click_39 : decode cX4_click 39 = .ok (.aload_n 1, 1) := by decide +kernel
theorem dX4_click_40 : decode cX4_click 40 = .ok (.aload_n 0, 1) := by decide +kernel
theorem dX4_click_41 : decode cX4_click 41 = .ok (.getfield 9, 3) := by decide +kernel
theorem dX4_click_44 : decode cX4_click 44 = .ok (.iload_n 3, 1) := by decide +kernel
theorem dX4_click_45 : decode cX4_click 45 = .ok (.iaload, 1) := by decide +kernel
theorem dX4_click_46 : decode cX4_click 46 = .ok (.invokevirtual 47, 3) := by decide +kernel
theorem dX4_click_49 : decode cX4_click 49 = .ok (.invokestatic 53, 3) := by decide +kernel
theorem dX4_click_52 : decode cX4_click 52 = .ok (.if_icmp .ge 53, 3) := by decide +kernel
theorem dX4_click_55 : decode cX4_click 55 = .ok (.aload_n 0, 1) := by decide +kernel
theorem dX4_click_56 : decode cX4_click 56 = .ok (.getfield 15, 3) := by decide +kernel
theorem dX4_click_59 : decode cX4_click 59 = .ok (.iload_n 3, 1) := by decide +kernel
theorem dX4_click_60 : decode cX4_click 60 = .ok (.baload, 1) := by decide +kernel
theorem dX4_click_61 : decode cX4_click 61 = .ok (.ifCond .eq 16, 3) := by decide +kernel
theorem dX4_click_64 : decode cX4_click 64 = .ok (.aload_n 0, 1) := by decide +kernel
theorem dX4_click_65 : decode cX4_click 65 = .ok (.dup, 1) := by decide +kernel
theorem dX4_click_66 : decode cX4_click 66 = .ok (.getfield 23, 3) := by decide +kernel
theorem dX4_click_69 : decode cX4_click 69 = .ok (.iconst 1, 1) := by decide +kernel
theorem dX4_click_70 : decode cX4_click 70 = .ok (.iadd, 1) := by decide +kernel
theorem dX4_click_71 : decode cX4_click 71 = .ok (.putfield 23, 3) := by decide +kernel
theorem dX4_click_74 : decode cX4_click 74 = .ok (.goto 13, 3) := by decide +kernel
theorem dX4_click_77 : decode cX4_click 77 = .ok (.aload_n 0, 1) := by decide +kernel
theorem dX4_click_78 : decode cX4_click 78 = .ok (.dup, 1) := by decide +kernel
theorem dX4_click_79 : decode cX4_click 79 = .ok (.getfield 19, 3) := by decide +kernel
theorem dX4_click_82 : decode cX4_click 82 = .ok (.iconst 1, 1) := by decide +kernel
theorem dX4_click_83 : decode cX4_click 83 = .ok (.iadd, 1) := by decide +kernel
theorem dX4_click_84 : decode cX4_click 84 = .ok (.putfield 19, 3) := by decide +kernel
theorem dX4_click_87 : decode cX4_click 87 = .ok (.aload_n 0, 1) := by decide +kernel
theorem dX4_click_88 : decode cX4_click 88 = .ok (.invokevirtual 39, 3) := by decide +kernel
theorem dX4_click_91 : decode cX4_click 91 = .ok (.bipush 100, 2) := by decide +kernel
theorem dX4_click_93 : decode cX4_click 93 = .ok (.irem, 1) := by decide +kernel
theorem dX4_click_94 : decode cX4_click 94 = .ok (.bipush 50, 2) := by decide +kernel
theorem dX4_click_96 : decode cX4_click 96 = .ok (.if_icmp .ge 7, 3) := by decide +kernel
theorem dX4_click_99 : decode cX4_click 99 = .ok (.iconst 1, 1) := by decide +kernel
theorem dX4_click_100 : decode cX4_click 100 = .ok (.goto 4, 3) := by decide +kernel
theorem dX4_click_103 : decode cX4_click 103 = .ok (.iconst 0, 1) := by decide +kernel
theorem dX4_click_104 : decode cX4_click 104 = .ok (.istore_n 2, 1) := by decide +kernel
theorem dX4_click_105 : decode cX4_click 105 = .ok (.iinc 3 1, 3) := by decide +kernel
theorem dX4_click_108 : decode cX4_click 108 = .ok (.goto (-94), 3) := by decide +kernel
theorem dX4_click_111 : decode cX4_click 111 = .ok (.return_, 1) := by decide +kernel
theorem dX4_clickChance_0 : decode cX4_clickChance 0 = .ok (.iload_n 0, 1) := by decide +kernel
theorem dX4_clickChance_1 : decode cX4_clickChance 1 = .ok (.iconst 1, 1) := by decide +kernel
theorem dX4_clickChance_2 : decode cX4_clickChance 2 = .ok (.iadd, 1) := by decide +kernel
theorem dX4_clickChance_3 : decode cX4_clickChance 3 = .ok (.istore_n 1, 1) := by decide +kernel
theorem dX4_clickChance_4 : decode cX4_clickChance 4 = .ok (.iload_n 1, 1) := by decide +kernel
theorem dX4_clickChance_5 : decode cX4_clickChance 5 = .ok (.ifCond .lt 19, 3) := by decide +kernel
theorem dX4_clickChance_8 : decode cX4_clickChance 8 = .ok (.iload_n 1, 1) := by decide +kernel
theorem dX4_clickChance_9 : decode cX4_clickChance 9 = .ok (.getstatic 56, 3) := by decide +kernel
theorem dX4_clickChance_12 : decode cX4_clickChance 12 = .ok (.arraylength, 1) := by decide +kernel
theorem dX4_clickChance_13 : decode cX4_clickChance 13 = .ok (.if_icmp .ge 11, 3) := by decide +kernel
theorem dX4_clickChance_16 : decode cX4_clickChance 16 = .ok (.getstatic 56, 3) := by decide +kernel
theorem dX4_clickChance_19 : decode cX4_clickChance 19 = .ok (.iload_n 1, 1) := by decide +kernel
theorem dX4_clickChance_20 : decode cX4_clickChance 20 = .ok (.iaload, 1) := by decide +kernel
theorem dX4_clickChance_21 : decode cX4_clickChance 21 = .ok (.goto 4, 3) := by decide +kernel
theorem dX4_clickChance_24 : decode cX4_clickChance 24 = .ok (.iconst 0, 1) := by decide +kernel
theorem dX4_clickChance_25 : decode cX4_clickChance 25 = .ok (.ireturn, 1) := by decide +kernel
theorem dX4_draw_0 : decode cX4_draw 0 = .ok (.aload_n 0, 1) := by decide +kernel
theorem dX4_draw_1 : decode cX4_draw 1 = .ok (.ldc 59, 2) := by decide +kernel
theorem dX4_draw_3 : decode cX4_draw 3 = .ok (.aload_n 0, 1) := by decide +kernel
theorem dX4_draw_4 : decode cX4_draw 4 = .ok (.getfield 29, 3) := by decide +kernel
theorem dX4_draw_7 : decode cX4_draw 7 = .ok (.imul, 1) := by decide +kernel
theorem dX4_draw_8 : decode cX4_draw 8 = .ok (.ldc 60, 2) := by decide +kernel
theorem dX4_draw_10 : decode cX4_draw 10 = .ok (.iadd, 1) := by decide +kernel
theorem dX4_draw_11 : decode cX4_draw 11 = .ok (.putfield 29, 3) := by decide +kernel
theorem dX4_draw_14 : decode cX4_draw 14 = .ok (.aload_n 0, 1) := by decide +kernel
theorem dX4_draw_15 : decode cX4_draw 15 = .ok (.getfield 29, 3) := by decide +kernel
theorem dX4_draw_18 : decode cX4_draw 18 = .ok (.bipush 16, 2) := by decide +kernel
theorem dX4_draw_20 : decode cX4_draw 20 = .ok (.iushr, 1) := by decide +kernel
theorem dX4_draw_21 : decode cX4_draw 21 = .ok (.ireturn, 1) := by decide +kernel
set_option maxRecDepth 20000 in
theorem ggX4_canLay_X4_firstNotLaid : GoodIn wsX4_canLay wsX4_firstNotLaid := goodIn_r _ [6, 7, 8, 9, 10, 11, 12, 13, 14, 15, 16, 17, 18, 19, 20, 21, 22, 23, 24, 25, 26, 27, 28] (by decide +kernel) (by decide +kernel)
set_option maxRecDepth 20000 in
theorem gX4_canLay_X4_firstNotLaid : GoodIn wsX4_canLay (wsV RX4 61 RX4 yX4_firstNotLaid wsX4_firstNotLaid) := goodIn_app (goodIn_of _ (by decide +kernel)) ggX4_canLay_X4_firstNotLaid
theorem dX4_canLay_0 : decode cX4_canLay 0 = .ok (.aload_n 0, 1) := by decide +kernel
theorem dX4_canLay_1 : decode cX4_canLay 1 = .ok (.getfield 26, 3) := by decide +kernel
theorem dX4_canLay_4 : decode cX4_canLay 4 = .ok (.bipush 16, 2) := by decide +kernel
theorem dX4_canLay_6 : decode cX4_canLay 6 = .ok (.if_icmp .ge 25, 3) := by decide +kernel
theorem dX4_canLay_9 : decode cX4_canLay 9 = .ok (.aload_n 0, 1) := by decide +kernel
theorem dX4_canLay_10 : decode cX4_canLay 10 = .ok (.aload_n 1, 1) := by decide +kernel
theorem dX4_canLay_11 : decode cX4_canLay 11 = .ok (.invokevirtual 61, 3) := by decide +kernel
theorem dX4_canLay_14 : decode cX4_canLay 14 = .ok (.iconst (-1), 1) := by decide +kernel
theorem dX4_canLay_15 : decode cX4_canLay 15 = .ok (.if_icmp .ne 12, 3) := by decide +kernel
theorem dX4_canLay_18 : decode cX4_canLay 18 = .ok (.aload_n 0, 1) := by decide +kernel
theorem dX4_canLay_19 : decode cX4_canLay 19 = .ok (.aload_n 2, 1) := by decide +kernel
theorem dX4_canLay_20 : decode cX4_canLay 20 = .ok (.invokevirtual 61, 3) := by decide +kernel
theorem dX4_canLay_23 : decode cX4_canLay 23 = .ok (.iconst (-1), 1) := by decide +kernel
theorem dX4_canLay_24 : decode cX4_canLay 24 = .ok (.if_icmp .eq 7, 3) := by decide +kernel
theorem dX4_canLay_27 : decode cX4_canLay 27 = .ok (.iconst 1, 1) := by decide +kernel
theorem dX4_canLay_28 : decode cX4_canLay 28 = .ok (.goto 4, 3) := by decide +kernel
theorem dX4_canLay_31 : decode cX4_canLay 31 = .ok (.iconst 0, 1) := by decide +kernel
theorem dX4_canLay_32 : decode cX4_canLay 32 = .ok (.ireturn, 1) := by decide +kernel
set_option maxRecDepth 20000 in
theorem ggX4_firstNotLaid_X7_size : GoodIn wsX4_firstNotLaid wsX7_size := goodIn_r _ [6, 7, 20, 21, 22] (by decide +kernel) (by decide +kernel)
set_option maxRecDepth 20000 in
theorem gX4_firstNotLaid_X7_size : GoodIn wsX4_firstNotLaid (wsV RX4 65 RX7 yX7_size wsX7_size) := goodIn_app (goodIn_of _ (by decide +kernel)) ggX4_firstNotLaid_X7_size
set_option maxRecDepth 20000 in
theorem ggX4_firstNotLaid_X7_documentAt : GoodIn wsX4_firstNotLaid wsX7_documentAt := goodIn_r _ [11, 7, 12, 20, 21, 22] (by decide +kernel) (by decide +kernel)
set_option maxRecDepth 20000 in
theorem gX4_firstNotLaid_X7_documentAt : GoodIn wsX4_firstNotLaid (wsV RX4 69 RX7 yX7_documentAt wsX7_documentAt) := goodIn_app (goodIn_of _ (by decide +kernel)) ggX4_firstNotLaid_X7_documentAt
theorem dX4_firstNotLaid_0 : decode cX4_firstNotLaid 0 = .ok (.iconst 1, 1) := by decide +kernel
theorem dX4_firstNotLaid_1 : decode cX4_firstNotLaid 1 = .ok (.istore_n 2, 1) := by decide +kernel
theorem dX4_firstNotLaid_2 : decode cX4_firstNotLaid 2 = .ok (.iload_n 2, 1) := by decide +kernel
theorem dX4_firstNotLaid_3 : decode cX4_firstNotLaid 3 = .ok (.aload_n 1, 1) := by decide +kernel
theorem dX4_firstNotLaid_4 : decode cX4_firstNotLaid 4 = .ok (.invokevirtual 65, 3) := by decide +kernel
theorem dX4_firstNotLaid_7 : decode cX4_firstNotLaid 7 = .ok (.if_icmp .gt 28, 3) := by decide +kernel
theorem dX4_firstNotLaid_10 : decode cX4_firstNotLaid 10 = .ok (.aload_n 1, 1) := by decide +kernel
theorem dX4_firstNotLaid_11 : decode cX4_firstNotLaid 11 = .ok (.iload_n 2, 1) := by decide +kernel
theorem dX4_firstNotLaid_12 : decode cX4_firstNotLaid 12 = .ok (.invokevirtual 69, 3) := by decide +kernel
theorem dX4_firstNotLaid_15 : decode cX4_firstNotLaid 15 = .ok (.istore_n 3, 1) := by decide +kernel
theorem dX4_firstNotLaid_16 : decode cX4_firstNotLaid 16 = .ok (.aload_n 0, 1) := by decide +kernel
theorem dX4_firstNotLaid_17 : decode cX4_firstNotLaid 17 = .ok (.getfield 32, 3) := by decide +kernel
theorem dX4_firstNotLaid_20 : decode cX4_firstNotLaid 20 = .ok (.iload_n 3, 1) := by decide +kernel
theorem dX4_firstNotLaid_21 : decode cX4_firstNotLaid 21 = .ok (.iushr, 1) := by decide +kernel
theorem dX4_firstNotLaid_22 : decode cX4_firstNotLaid 22 = .ok (.iconst 1, 1) := by decide +kernel
