theorem dX9_preference_43 : decode cX9_preference 43 = .ok (.iload_n 1, 1) := by decide +kernel
theorem dX9_preference_44 : decode cX9_preference 44 = .ok (.iload_n 2, 1) := by decide +kernel
theorem dX9_preference_45 : decode cX9_preference 45 = .ok (.iload_n 3, 1) := by decide +kernel
theorem dX9_preference_46 : decode cX9_preference 46 = .ok (.invokevirtual 89, 3) := by decide +kernel
theorem dX9_preference_49 : decode cX9_preference 49 = .ok (.if_icmp .ge 76, 3) := by decide +kernel
theorem dX9_preference_52 : decode cX9_preference 52 = .ok (.aload_n 0, 1) := by decide +kernel
theorem dX9_preference_53 : decode cX9_preference 53 = .ok (.iload_n 2, 1) := by decide +kernel
theorem dX9_preference_54 : decode cX9_preference 54 = .ok (.aload_n 0, 1) := by decide +kernel
theorem dX9_preference_55 : decode cX9_preference 55 = .ok (.iload_n 1, 1) := by decide +kernel
theorem dX9_preference_56 : decode cX9_preference 56 = .ok (.iload_n 2, 1) := by decide +kernel
theorem dX9_preference_57 : decode cX9_preference 57 = .ok (.iload 8, 2) := by decide +kernel
theorem dX9_preference_59 : decode cX9_preference 59 = .ok (.invokevirtual 57, 3) := by decide +kernel
theorem dX9_preference_62 : decode cX9_preference 62 = .ok (.invokevirtual 50, 3) := by decide +kernel
theorem dX9_preference_65 : decode cX9_preference 65 = .ok (.istore 9, 2) := by decide +kernel
theorem dX9_preference_67 : decode cX9_preference 67 = .ok (.iload 9, 2) := by decide +kernel
theorem dX9_preference_69 : decode cX9_preference 69 = .ok (.ifCond .le 35, 3) := by decide +kernel
theorem dX9_preference_72 : decode cX9_preference 72 = .ok (.lload 5, 2) := by decide +kernel
theorem dX9_preference_74 : decode cX9_preference 74 = .ok (.iload 4, 2) := by decide +kernel
theorem dX9_preference_76 : decode cX9_preference 76 = .ok (.ifCond .ne 7, 3) := by decide +kernel
theorem dX9_preference_79 : decode cX9_preference 79 = .ok (.lconst 1, 1) := by decide +kernel
theorem dX9_preference_80 : decode cX9_preference 80 = .ok (.goto 21, 3) := by decide +kernel
theorem dX9_preference_83 : decode cX9_preference 83 = .ok (.iload 4, 2) := by decide +kernel
theorem dX9_preference_85 : decode cX9_preference 85 = .ok (.iload 7, 2) := by decide +kernel
theorem dX9_preference_87 : decode cX9_preference 87 = .ok (.iload 4, 2) := by decide +kernel
theorem dX9_preference_89 : decode cX9_preference 89 = .ok (.if_icmp .ge 8, 3) := by decide +kernel
theorem dX9_preference_92 : decode cX9_preference 92 = .ok (.iload 7, 2) := by decide +kernel
theorem dX9_preference_94 : decode cX9_preference 94 = .ok (.goto 5, 3) := by decide +kernel
theorem dX9_preference_97 : decode cX9_preference 97 = .ok (.iload 4, 2) := by decide +kernel
theorem dX9_preference_99 : decode cX9_preference 99 = .ok (.isub, 1) := by decide +kernel
theorem dX9_preference_100 : decode cX9_preference 100 = .ok (.i2l, 1) := by decide +kernel
theorem dX9_preference_101 : decode cX9_preference 101 = .ok (.ladd, 1) := by decide +kernel
theorem dX9_preference_102 : decode cX9_preference 102 = .ok (.lstore 5, 2) := by decide +kernel
theorem dX9_preference_104 : decode cX9_preference 104 = .ok (.iload 7, 2) := by decide +kernel
theorem dX9_preference_106 : decode cX9_preference 106 = .ok (.iload 9, 2) := by decide +kernel
theorem dX9_preference_108 : decode cX9_preference 108 = .ok (.ifCond .ne 7, 3) := by decide +kernel
theorem dX9_preference_111 : decode cX9_preference 111 = .ok (.iconst 1, 1) := by decide +kernel
theorem dX9_preference_112 : decode cX9_preference 112 = .ok (.goto 4, 3) := by decide +kernel
theorem dX9_preference_115 : decode cX9_preference 115 = .ok (.iconst 0, 1) := by decide +kernel
theorem dX9_preference_116 : decode cX9_preference 116 = .ok (.iadd, 1) := by decide +kernel
theorem dX9_preference_117 : decode cX9_preference 117 = .ok (.istore 7, 2) := by decide +kernel
theorem dX9_preference_119 : decode cX9_preference 119 = .ok (.iinc 8 1, 3) := by decide +kernel
theorem dX9_preference_122 : decode cX9_preference 122 = .ok (.goto (-82), 3) := by decide +kernel
theorem dX9_preference_125 : decode cX9_preference 125 = .ok (.aload_n 0, 1) := by decide +kernel
theorem dX9_preference_126 : decode cX9_preference 126 = .ok (.lload 5, 2) := by decide +kernel
theorem dX9_preference_128 : decode cX9_preference 128 = .ok (.iload 4, 2) := by decide +kernel
theorem dX9_preference_130 : decode cX9_preference 130 = .ok (.ifCond .ne 7, 3) := by decide +kernel
theorem dX9_preference_133 : decode cX9_preference 133 = .ok (.lconst 1, 1) := by decide +kernel
theorem dX9_preference_134 : decode cX9_preference 134 = .ok (.goto 6, 3) := by decide +kernel
theorem dX9_preference_137 : decode cX9_preference 137 = .ok (.iload 4, 2) := by decide +kernel
theorem dX9_preference_139 : decode cX9_preference 139 = .ok (.i2l, 1) := by decide +kernel
theorem dX9_preference_140 : decode cX9_preference 140 = .ok (.invokevirtual 82, 3) := by decide +kernel
theorem dX9_preference_143 : decode cX9_preference 143 = .ok (.aload_n 0, 1) := by decide +kernel
theorem dX9_preference_144 : decode cX9_preference 144 = .ok (.aload_n 0, 1) := by decide +kernel
theorem dX9_preference_145 : decode cX9_preference 145 = .ok (.iload_n 2, 1) := by decide +kernel
theorem dX9_preference_146 : decode cX9_preference 146 = .ok (.invokevirtual 71, 3) := by decide +kernel
theorem dX9_preference_149 : decode cX9_preference 149 = .ok (.i2l, 1) := by decide +kernel
theorem dX9_preference_150 : decode cX9_preference 150 = .ok (.invokevirtual 98, 3) := by decide +kernel
theorem dX9_preference_153 : decode cX9_preference 153 = .ok (.return_, 1) := by decide +kernel
set_option maxRecDepth 20000 in
theorem ggX9_reckon_X9_goods : GoodIn wsX9_reckon wsX9_goods := goodIn_r _ [5, 6, 7, 8, 4, 9, 10, 11, 12, 13, 14, 15, 16, 17, 18, 19, 20, 21, 22, 23, 24, 25, 26, 27, 28, 81, 82, 83, 84, 85, 86, 87, 88, 89, 90, 91, 92, 93, 94] (by decide +kernel) (by decide +kernel)
set_option maxRecDepth 20000 in
theorem gX9_reckon_X9_goods : GoodIn wsX9_reckon (wsV RX9 109 RX9 yX9_goods wsX9_goods) := goodIn_app (goodIn_of _ (by decide +kernel)) ggX9_reckon_X9_goods
set_option maxRecDepth 20000 in
theorem ggX9_reckon_X9_make : GoodIn wsX9_reckon wsX9_make := goodIn_r _ [32, 33, 34, 35, 36, 4, 37, 81, 82, 83, 84, 85, 86, 87, 88, 89, 90, 91, 92, 93, 94] (by decide +kernel) (by decide +kernel)
set_option maxRecDepth 20000 in
theorem gX9_reckon_X9_make : GoodIn wsX9_reckon (wsV RX9 82 RX9 yX9_make wsX9_make) := goodIn_app (goodIn_of _ (by decide +kernel)) ggX9_reckon_X9_make
set_option maxRecDepth 20000 in
theorem ggX9_reckon_X9_rs : GoodIn wsX9_reckon wsX9_rs := goodIn_r _ [41, 42, 43, 44, 4, 45, 24, 25, 26, 27, 28, 81, 82, 83, 84, 85, 86, 87, 88, 89, 90, 91, 92, 93, 94] (by decide +kernel) (by decide +kernel)
set_option maxRecDepth 20000 in
theorem gX9_reckon_X9_rs : GoodIn wsX9_reckon (wsV RX9 71 RX9 yX9_rs wsX9_rs) := goodIn_app (goodIn_of _ (by decide +kernel)) ggX9_reckon_X9_rs
set_option maxRecDepth 20000 in
theorem ggX9_reckon_X9_average : GoodIn wsX9_reckon wsX9_average := goodIn_r _ [49, 29, 30, 31, 4, 32, 33, 34, 35, 36, 37, 6, 7, 8, 9, 10, 11, 12, 13, 14, 15, 16, 17, 18, 19, 20, 21, 22, 23, 24, 25, 26, 27, 28, 50, 51, 52, 53, 38, 39, 40, 41, 42, 43, 44, 45, 54, 55, 56, 57, 81, 82, 83, 84, 85, 86, 87, 88, 89, 90, 91, 92, 93, 94] (by decide +kernel) (by decide +kernel)
set_option maxRecDepth 20000 in
theorem gX9_reckon_X9_average : GoodIn wsX9_reckon (wsV RX9 112 RX9 yX9_average wsX9_average) := goodIn_app (goodIn_of _ (by decide +kernel)) ggX9_reckon_X9_average
set_option maxRecDepth 20000 in
theorem ggX9_reckon_X9_firstGood : GoodIn wsX9_reckon wsX9_firstGood := goodIn_r _ [61, 29, 30, 31, 4, 32, 33, 34, 35, 36, 37, 6, 7, 8, 9, 10, 11, 12, 13, 14, 15, 16, 17, 18, 19, 20, 21, 22, 23, 24, 25, 26, 27, 28, 81, 82, 83, 84, 85, 86, 87, 88, 89, 90, 91, 92, 93, 94] (by decide +kernel) (by decide +kernel)
set_option maxRecDepth 20000 in
theorem gX9_reckon_X9_firstGood : GoodIn wsX9_reckon (wsV RX9 115 RX9 yX9_firstGood wsX9_firstGood) := goodIn_app (goodIn_of _ (by decide +kernel)) ggX9_reckon_X9_firstGood
set_option maxRecDepth 20000 in
theorem ggX9_reckon_X9_gained : GoodIn wsX9_reckon wsX9_gained := goodIn_r _ [65, 29, 30, 31, 4, 32, 33, 34, 35, 36, 37, 6, 7, 8, 9, 10, 11, 12, 13, 14, 15, 16, 17, 18, 19, 20, 21, 22, 23, 24, 25, 26, 27, 28, 66, 67, 68, 50, 51, 52, 53, 81, 82, 83, 84, 85, 86, 87, 88, 89, 90, 91, 92, 93, 94] (by decide +kernel) (by decide +kernel)
set_option maxRecDepth 20000 in
theorem gX9_reckon_X9_gained : GoodIn wsX9_reckon (wsV RX9 105 RX9 yX9_gained wsX9_gained) := goodIn_app (goodIn_of _ (by decide +kernel)) ggX9_reckon_X9_gained
set_option maxRecDepth 20000 in
theorem ggX9_reckon_X9_share : GoodIn wsX9_reckon wsX9_share := goodIn_r _ [72, 33, 34, 29, 30, 31, 4, 32, 35, 36, 37, 42, 43, 44, 45, 24, 25, 26, 27, 28, 66, 67, 68, 50, 51, 52, 53, 62, 63, 64, 65, 6, 7, 8, 9, 10, 11, 12, 13, 14, 15, 16, 17, 18, 19, 20, 21, 22, 23, 81, 82, 83, 84, 85, 86, 87, 88, 89, 90, 91, 92, 93, 94] (by decide +kernel) (by decide +kernel)
set_option maxRecDepth 20000 in
theorem gX9_reckon_X9_share : GoodIn wsX9_reckon (wsV RX9 118 RX9 yX9_share wsX9_share) := goodIn_app (goodIn_of _ (by decide +kernel)) ggX9_reckon_X9_share
set_option maxRecDepth 20000 in
theorem ggX9_reckon_X9_preference : GoodIn wsX9_reckon wsX9_preference := goodIn_r _ [76, 42, 43, 44, 4, 45, 24, 25, 26, 27, 28, 38, 39, 40, 41, 6, 7, 8, 9, 10, 11, 12, 13, 14, 15, 16, 17, 18, 19, 29, 30, 31, 32, 33, 34, 35, 36, 37, 54, 55, 56, 57, 81, 82, 83, 84, 85, 86, 87, 88, 89, 90, 91, 92, 93, 94] (by decide +kernel) (by decide +kernel)
set_option maxRecDepth 20000 in
theorem gX9_reckon_X9_preference : GoodIn wsX9_reckon (wsV RX9 121 RX9 yX9_preference wsX9_preference) := goodIn_app (goodIn_of _ (by decide +kernel)) ggX9_reckon_X9_preference
set_option maxRecDepth 20000 in
theorem ggX9_reckon_X9_unjudged : GoodIn wsX9_reckon wsX9_unjudged := goodIn_r _ [80, 6, 7, 8, 4, 9, 10, 11, 12, 13, 14, 15, 16, 17, 18, 19, 24, 25, 26, 27, 28, 81, 82, 83, 84, 85, 86, 87, 88, 89, 90, 91, 92, 93, 94] (by decide +kernel) (by decide +kernel)
set_option maxRecDepth 20000 in
theorem gX9_reckon_X9_unjudged : GoodIn wsX9_reckon (wsV RX9 124 RX9 yX9_unjudged wsX9_unjudged) := goodIn_app (goodIn_of _ (by decide +kernel)) ggX9_reckon_X9_unjudged
set_option maxRecDepth 20000 in
theorem ggX9_reckon_X9_first : GoodIn wsX9_reckon wsX9_first := goodIn_r _ [9, 10, 11, 12, 4, 13, 14, 81, 82, 83, 84, 85, 86, 87, 88, 89, 90, 91, 92, 93, 94] (by decide +kernel) (by decide +kernel)
set_option maxRecDepth 20000 in
theorem gX9_reckon_X9_first : GoodIn wsX9_reckon (wsV RX9 89 RX9 yX9_first wsX9_first) := goodIn_app (goodIn_of _ (by decide +kernel)) ggX9_reckon_X9_first
theorem dX9_reckon_0 : decode cX9_reckon 0 = .ok (.iload_n 3, 1) := by decide +kernel
theorem dX9_reckon_1 : decode cX9_reckon 1 = .ok (.tableswitch 160 0 7 #[47, 66, 88, 99, 110, 121, 132, 143], 47) := by decide +kernel
theorem dX9_reckon_48 : decode cX9_reckon 48 = .ok (.aload_n 0, 1) := by decide +kernel
theorem dX9_reckon_49 : decode cX9_reckon 49 = .ok (.aload_n 0, 1) := by decide +kernel
theorem dX9_reckon_50 : decode cX9_reckon 50 = .ok (.iload_n 1, 1) := by decide +kernel
theorem dX9_reckon_51 : decode cX9_reckon 51 = .ok (.iload_n 2, 1) := by decide +kernel
theorem dX9_reckon_52 : decode cX9_reckon 52 = .ok (.iload 4, 2) := by decide +kernel
theorem dX9_reckon_54 : decode cX9_reckon 54 = .ok (.invokevirtual 109, 3) := by decide +kernel
theorem dX9_reckon_57 : decode cX9_reckon 57 = .ok (.i2l, 1) := by decide +kernel
theorem dX9_reckon_58 : decode cX9_reckon 58 = .ok (.iload 4, 2) := by decide +kernel
theorem dX9_reckon_60 : decode cX9_reckon 60 = .ok (.i2l, 1) := by decide +kernel
theorem dX9_reckon_61 : decode cX9_reckon 61 = .ok (.invokevirtual 82, 3) := by decide +kernel
theorem dX9_reckon_64 : decode cX9_reckon 64 = .ok (.goto 128, 3) := by decide +kernel
theorem dX9_reckon_67 : decode cX9_reckon 67 = .ok (.aload_n 0, 1) := by decide +kernel
theorem dX9_reckon_68 : decode cX9_reckon 68 = .ok (.aload_n 0, 1) := by decide +kernel
theorem dX9_reckon_69 : decode cX9_reckon 69 = .ok (.iload_n 1, 1) := by decide +kernel
theorem dX9_reckon_70 : decode cX9_reckon 70 = .ok (.iload_n 2, 1) := by decide +kernel
theorem dX9_reckon_71 : decode cX9_reckon 71 = .ok (.iload 4, 2) := by decide +kernel
theorem dX9_reckon_73 : decode cX9_reckon 73 = .ok (.invokevirtual 109, 3) := by decide +kernel
theorem dX9_reckon_76 : decode cX9_reckon 76 = .ok (.i2l, 1) := by decide +kernel
theorem dX9_reckon_77 : decode cX9_reckon 77 = .ok (.aload_n 0, 1) := by decide +kernel
theorem dX9_reckon_78 : decode cX9_reckon 78 = .ok (.iload_n 2, 1) := by decide +kernel
theorem dX9_reckon_79 : decode cX9_reckon 79 = .ok (.invokevirtual 71, 3) := by decide +kernel
theorem dX9_reckon_82 : decode cX9_reckon 82 = .ok (.i2l, 1) := by decide +kernel
theorem dX9_reckon_83 : decode cX9_reckon 83 = .ok (.invokevirtual 82, 3) := by decide +kernel
theorem dX9_reckon_86 : decode cX9_reckon 86 = .ok (.goto 106, 3) := by decide +kernel
theorem dX9_reckon_89 : decode cX9_reckon 89 = .ok (.aload_n 0, 1) := by decide +kernel
theorem dX9_reckon_90 : decode cX9_reckon 90 = .ok (.iload_n 1, 1) := by decide +kernel
theorem dX9_reckon_91 : decode cX9_reckon 91 = .ok (.iload_n 2, 1) := by decide +kernel
theorem dX9_reckon_92 : decode cX9_reckon 92 = .ok (.iload 4, 2) := by decide +kernel
theorem dX9_reckon_94 : decode cX9_reckon 94 = .ok (.invokevirtual 112, 3) := by decide +kernel
theorem dX9_reckon_97 : decode cX9_reckon 97 = .ok (.goto 95, 3) := by decide +kernel
theorem dX9_reckon_100 : decode cX9_reckon 100 = .ok (.aload_n 0, 1) := by decide +kernel
theorem dX9_reckon_101 : decode cX9_reckon 101 = .ok (.iload_n 1, 1) := by decide +kernel
theorem dX9_reckon_102 : decode cX9_reckon 102 = .ok (.iload_n 2, 1) := by decide +kernel
theorem dX9_reckon_103 : decode cX9_reckon 103 = .ok (.iload 4, 2) := by decide +kernel
theorem dX9_reckon_105 : decode cX9_reckon 105 = .ok (.invokevirtual 115, 3) := by decide +kernel
theorem dX9_reckon_108 : decode cX9_reckon 108 = .ok (.goto 84, 3) := by decide +kernel
theorem dX9_reckon_111 : decode cX9_reckon 111 = .ok (.aload_n 0, 1) := by decide +kernel
theorem dX9_reckon_112 : decode cX9_reckon 112 = .ok (.iload_n 1, 1) := by decide +kernel
theorem dX9_reckon_113 : decode cX9_reckon 113 = .ok (.iload_n 2, 1) := by decide +kernel
theorem dX9_reckon_114 : decode cX9_reckon 114 = .ok (.iload 4, 2) := by decide +kernel
theorem dX9_reckon_116 : decode cX9_reckon 116 = .ok (.invokevirtual 105, 3) := by decide +kernel
theorem dX9_reckon_119 : decode cX9_reckon 119 = .ok (.goto 73, 3) := by decide +kernel
theorem dX9_reckon_122 : decode cX9_reckon 122 = .ok (.aload_n 0, 1) := by decide +kernel
theorem dX9_reckon_123 : decode cX9_reckon 123 = .ok (.iload_n 1, 1) := by decide +kernel
theorem dX9_reckon_124 : decode cX9_reckon 124 = .ok (.iload_n 2, 1) := by decide +kernel
theorem dX9_reckon_125 : decode cX9_reckon 125 = .ok (.iload 4, 2) := by decide +kernel
theorem dX9_reckon_127 : decode cX9_reckon 127 = .ok (.invokevirtual 118, 3) := by decide +kernel
theorem dX9_reckon_130 : decode cX9_reckon 130 = .ok (.goto 62, 3) := by decide +kernel
theorem dX9_reckon_133 : decode cX9_reckon 133 = .ok (.aload_n 0, 1) := by decide +kernel
theorem dX9_reckon_134 : decode cX9_reckon 134 = .ok (.iload_n 1, 1) := by decide +kernel
theorem dX9_reckon_135 : decode cX9_reckon 135 = .ok (.iload_n 2, 1) := by decide +kernel
theorem dX9_reckon_136 : decode cX9_reckon 136 = .ok (.iload 4, 2) := by decide +kernel
theorem dX9_reckon_138 : decode cX9_reckon 138 = .ok (.invokevirtual 121, 3) := by decide +kernel
theorem dX9_reckon_141 : decode cX9_reckon 141 = .ok (.goto 51, 3) := by decide +kernel
theorem dX9_reckon_144 : decode cX9_reckon 144 = .ok (.aload_n 0, 1) := by decide +kernel
theorem dX9_reckon_145 : decode cX9_reckon 145 = .ok (.aload_n 0, 1) := by decide +kernel
theorem dX9_reckon_146 : decode cX9_reckon 146 = .ok (.iload_n 1, 1) := by decide +kernel
theorem dX9_reckon_147 : decode cX9_reckon 147 = .ok (.iload_n 2, 1) := by decide +kernel
theorem dX9_reckon_148 : decode cX9_reckon 148 = .ok (.iload 4, 2) := by decide +kernel
theorem dX9_reckon_150 : decode cX9_reckon 150 = .ok (.invokevirtual 124, 3) := by decide +kernel
theorem dX9_reckon_153 : decode cX9_reckon 153 = .ok (.i2l, 1) := by decide +kernel
theorem dX9_reckon_154 : decode cX9_reckon 154 = .ok (.lconst 1, 1) := by decide +kernel
theorem dX9_reckon_155 : decode cX9_reckon 155 = .ok (.invokevirtual 82, 3) := by decide +kernel
theorem dX9_reckon_158 : decode cX9_reckon 158 = .ok (.goto 34, 3) := by decide +kernel
theorem dX9_reckon_161 : decode cX9_reckon 161 = .ok (.aload_n 0, 1) := by decide +kernel
theorem dX9_reckon_162 : decode cX9_reckon 162 = .ok (.aload_n 0, 1) := by decide +kernel
theorem dX9_reckon_163 : decode cX9_reckon 163 = .ok (.iload_n 1, 1) := by decide +kernel
theorem dX9_reckon_164 : decode cX9_reckon 164 = .ok (.iload_n 2, 1) := by decide +kernel
theorem dX9_reckon_165 : decode cX9_reckon 165 = .ok (.iload 4, 2) := by decide +kernel
theorem dX9_reckon_167 : decode cX9_reckon 167 = .ok (.invokevirtual 109, 3) := by decide +kernel
theorem dX9_reckon_170 : decode cX9_reckon 170 = .ok (.i2l, 1) := by decide +kernel
theorem dX9_reckon_171 : decode cX9_reckon 171 = .ok (.aload_n 0, 1) := by decide +kernel
theorem dX9_reckon_172 : decode cX9_reckon 172 = .ok (.iload_n 1, 1) := by decide +kernel
theorem dX9_reckon_173 : decode cX9_reckon 173 = .ok (.iload_n 2, 1) := by decide +kernel
theorem dX9_reckon_174 : decode cX9_reckon 174 = .ok (.iload 4, 2) := by decide +kernel
theorem dX9_reckon_176 : decode cX9_reckon 176 = .ok (.invokevirtual 89, 3) := by decide +kernel
theorem dX9_reckon_179 : decode cX9_reckon 179 = .ok (.aload_n 0, 1) := by decide +kernel
theorem dX9_reckon_180 : decode cX9_reckon 180 = .ok (.iload_n 1, 1) := by decide +kernel
theorem dX9_reckon_181 : decode cX9_reckon 181 = .ok (.iload_n 2, 1) := by decide +kernel
theorem dX9_reckon_182 : decode cX9_reckon 182 = .ok (.iload 4, 2) := by decide +kernel
theorem dX9_reckon_184 : decode cX9_reckon 184 = .ok (.invokevirtual 124, 3) := by decide +kernel
theorem dX9_reckon_187 : decode cX9_reckon 187 = .ok (.isub, 1) := by decide +kernel
theorem dX9_reckon_188 : decode cX9_reckon 188 = .ok (.i2l, 1) := by decide +kernel
theorem dX9_reckon_189 : decode cX9_reckon 189 = .ok (.invokevirtual 82, 3) := by decide +kernel
theorem dX9_reckon_192 : decode cX9_reckon 192 = .ok (.return_, 1) := by decide +kernel
theorem dX9_isDeep_0 : decode cX9_isDeep 0 = .ok (.iload_n 0, 1) := by decide +kernel
theorem dX9_isDeep_1 : decode cX9_isDeep 1 = .ok (.iconst 1, 1) := by decide +kernel
theorem dX9_isDeep_2 : decode cX9_isDeep 2 = .ok (.if_icmp .lt 13, 3) := by decide +kernel
theorem dX9_isDeep_5 : decode cX9_isDeep 5 = .ok (.iload_n 0, 1) := by decide +kernel
theorem dX9_isDeep_6 : decode cX9_isDeep 6 = .ok (.bipush 16, 2) := by decide +kernel
theorem dX9_isDeep_8 : decode cX9_isDeep 8 = .ok (.if_icmp .gt 7, 3) := by decide +kernel
theorem dX9_isDeep_11 : decode cX9_isDeep 11 = .ok (.iconst 1, 1) := by decide +kernel
theorem dX9_isDeep_12 : decode cX9_isDeep 12 = .ok (.goto 4, 3) := by decide +kernel
theorem dX9_isDeep_15 : decode cX9_isDeep 15 = .ok (.iconst 0, 1) := by decide +kernel
theorem dX9_isDeep_16 : decode cX9_isDeep 16 = .ok (.ireturn, 1) := by decide +kernel
set_option maxRecDepth 20000 in
theorem ggX9_measure_X9_isRow : GoodIn wsX9_measure wsX9_isRow := goodIn_r _ [5, 6, 7, 8, 4, 9, 10, 11, 12, 105, 106, 107, 108, 109, 110, 111, 112, 113, 114, 115, 116, 117, 118] (by decide +kernel) (by decide +kernel)
set_option maxRecDepth 20000 in
theorem gX9_measure_X9_isRow : GoodIn wsX9_measure (wsV RX9 64 RX9 yX9_isRow wsX9_isRow) := goodIn_app (goodIn_of _ (by decide +kernel)) ggX9_measure_X9_isRow
set_option maxRecDepth 20000 in
theorem ggX9_measure_X9_isDeep : GoodIn wsX9_measure wsX9_isDeep := goodIn_r _ [15] (by decide +kernel) (by decide +kernel)
set_option maxRecDepth 20000 in
theorem gX9_measure_X9_isDeep : GoodIn wsX9_measure (va_wsS RX9 127 yX9_isDeep wsX9_isDeep) := goodIn_app (goodIn_of _ (by decide +kernel)) ggX9_measure_X9_isDeep
set_option maxRecDepth 20000 in
theorem ggX9_measure_X9_reckon : GoodIn wsX9_measure wsX9_reckon := goodIn_r _ [19, 20, 21, 22, 4, 23, 24, 25, 26, 27, 28, 29, 30, 31, 32, 33, 34, 35, 36, 37, 38, 39, 40, 41, 42, 43, 44, 45, 46, 47, 48, 49, 50, 51, 52, 53, 54, 55, 56, 57, 58, 59, 60, 61, 62, 63, 64, 65, 66, 67, 68, 69, 70, 71, 72, 73, 74, 75, 76, 77, 78, 79, 80, 81, 82, 83, 84, 85, 86, 87, 88, 89, 90, 91, 92, 93, 94, 95, 96, 97, 98, 105, 106, 107, 108, 109, 110, 111, 112, 113, 114, 115, 116, 117, 118] (by decide +kernel) (by decide +kernel)
set_option maxRecDepth 20000 in
theorem gX9_measure_X9_reckon : GoodIn wsX9_measure (wsV RX9 130 RX9 yX9_reckon wsX9_reckon) := goodIn_app (goodIn_of _ (by decide +kernel)) ggX9_measure_X9_reckon
set_option maxRecDepth 20000 in
theorem ggX9_measure_X9_show : GoodIn wsX9_measure wsX9_show := goodIn_r _ [102, 51, 103, 52, 104, 105, 106, 107, 108, 109, 110, 111, 112, 113, 114, 115, 116, 117, 118] (by decide +kernel) (by decide +kernel)
set_option maxRecDepth 20000 in
theorem gX9_measure_X9_show : GoodIn wsX9_measure (wsV RX9 134 RX9 yX9_show wsX9_show) := goodIn_app (goodIn_of _ (by decide +kernel)) ggX9_measure_X9_show
theorem dX9_measure_0 : decode cX9_measure 0 = .ok (.aload_n 0, 1) := by decide +kernel
theorem dX9_measure_1 : decode cX9_measure 1 = .ok (.iload_n 1, 1) := by decide +kernel
theorem dX9_measure_2 : decode cX9_measure 2 = .ok (.iload_n 2, 1) := by decide +kernel
theorem dX9_measure_3 : decode cX9_measure 3 = .ok (.invokevirtual 64, 3) := by decide +kernel
theorem dX9_measure_6 : decode cX9_measure 6 = .ok (.ifCond .ne 5, 3) := by decide +kernel
theorem dX9_measure_9 : decode cX9_measure 9 = .ok (.iconst (-1), 1) := by decide +kernel
theorem dX9_measure_10 : decode cX9_measure 10 = .ok (.ireturn, 1) := by decide +kernel
theorem dX9_measure_11 : decode cX9_measure 11 = .ok (.iload_n 3, 1) := by decide +kernel
theorem dX9_measure_12 : decode cX9_measure 12 = .ok (.ifCond .lt 17, 3) := by decide +kernel
theorem dX9_measure_15 : decode cX9_measure 15 = .ok (.iload_n 3, 1) := by decide +kernel
theorem dX9_measure_16 : decode cX9_measure 16 = .ok (.bipush 8, 2) := by decide +kernel
theorem dX9_measure_18 : decode cX9_measure 18 = .ok (.if_icmp .gt 11, 3) := by decide +kernel
theorem dX9_measure_21 : decode cX9_measure 21 = .ok (.iload 4, 2) := by decide +kernel
theorem dX9_measure_23 : decode cX9_measure 23 = .ok (.invokestatic 127, 3) := by decide +kernel
theorem dX9_measure_26 : decode cX9_measure 26 = .ok (.ifCond .ne 6, 3) := by decide +kernel
theorem dX9_measure_29 : decode cX9_measure 29 = .ok (.bipush (-2), 2) := by decide +kernel
theorem dX9_measure_31 : decode cX9_measure 31 = .ok (.ireturn, 1) := by decide +kernel
theorem dX9_measure_32 : decode cX9_measure 32 = .ok (.aload_n 0, 1) := by decide +kernel
theorem dX9_measure_33 : decode cX9_measure 33 = .ok (.iload_n 1, 1) := by decide +kernel
theorem dX9_measure_34 : decode cX9_measure 34 = .ok (.iload_n 2, 1) := by decide +kernel
theorem dX9_measure_35 : decode cX9_measure 35 = .ok (.iload_n 3, 1) := by decide +kernel
theorem dX9_measure_36 : decode cX9_measure 36 = .ok (.iload 4, 2) := by decide +kernel
theorem dX9_measure_38 : decode cX9_measure 38 = .ok (.invokevirtual 130, 3) := by decide +kernel
theorem dX9_measure_41 : decode cX9_measure 41 = .ok (.aload_n 0, 1) := by decide +kernel
theorem dX9_measure_42 : decode cX9_measure 42 = .ok (.invokevirtual 134, 3) := by decide +kernel
theorem dX9_measure_45 : decode cX9_measure 45 = .ok (.iconst 1, 1) := by decide +kernel
theorem dX9_measure_46 : decode cX9_measure 46 = .ok (.ireturn, 1) := by decide +kernel
theorem dX9_log_0 : decode cX9_log 0 = .ok (.iconst 0, 1) := by decide +kernel
theorem dX9_log_1 : decode cX9_log 1 = .ok (.istore_n 1, 1) := by decide +kernel
theorem dX9_log_2 : decode cX9_log 2 = .ok (.iload_n 0, 1) := by decide +kernel
theorem dX9_log_3 : decode cX9_log 3 = .ok (.iload_n 1, 1) := by decide +kernel
theorem dX9_log_4 : decode cX9_log 4 = .ok (.iconst 1, 1) := by decide +kernel
theorem dX9_log_5 : decode cX9_log 5 = .ok (.iadd, 1) := by decide +kernel
theorem dX9_log_6 : decode cX9_log 6 = .ok (.ishr, 1) := by decide +kernel
theorem dX9_log_7 : decode cX9_log 7 = .ok (.ifCond .le 9, 3) := by decide +kernel
theorem dX9_log_10 : decode cX9_log 10 = .ok (.iinc 1 1, 3) := by decide +kernel
theorem dX9_log_13 : decode cX9_log 13 = .ok (.goto (-11), 3) := by decide +kernel
theorem dX9_log_16 : decode cX9_log 16 = .ok (.iload_n 0, 1) := by decide +kernel
theorem dX9_log_17 : decode cX9_log 17 = .ok (.i2l, 1) := by decide +kernel
theorem dX9_log_18 : decode cX9_log 18 = .ok (.bipush 30, 2) := by decide +kernel
theorem dX9_log_20 : decode cX9_log 20 = .ok (.lshl, 1) := by decide +kernel
theorem dX9_log_21 : decode cX9_log 21 = .ok (.iload_n 1, 1) := by decide +kernel
theorem dX9_log_22 : decode cX9_log 22 = .ok (.lshr, 1) := by decide +kernel
theorem dX9_log_23 : decode cX9_log 23 = .ok (.lstore_n 2, 1) := by decide +kernel
theorem dX9_log_24 : decode cX9_log 24 = .ok (.iload_n 1, 1) := by decide +kernel
theorem dX9_log_25 : decode cX9_log 25 = .ok (.i2l, 1) := by decide +kernel
theorem dX9_log_26 : decode cX9_log 26 = .ok (.lstore 4, 2) := by decide +kernel
theorem dX9_log_28 : decode cX9_log 28 = .ok (.iconst 0, 1) := by decide +kernel
theorem dX9_log_29 : decode cX9_log 29 = .ok (.istore 6, 2) := by decide +kernel
theorem dX9_log_31 : decode cX9_log 31 = .ok (.iload 6, 2) := by decide +kernel
theorem dX9_log_33 : decode cX9_log 33 = .ok (.bipush 20, 2) := by decide +kernel
theorem dX9_log_35 : decode cX9_log 35 = .ok (.if_icmp .ge 40, 3) := by decide +kernel
theorem dX9_log_38 : decode cX9_log 38 = .ok (.lload_n 2, 1) := by decide +kernel
theorem dX9_log_39 : decode cX9_log 39 = .ok (.lload_n 2, 1) := by decide +kernel
theorem dX9_log_40 : decode cX9_log 40 = .ok (.lmul, 1) := by decide +kernel
theorem dX9_log_41 : decode cX9_log 41 = .ok (.bipush 30, 2) := by decide +kernel
theorem dX9_log_43 : decode cX9_log 43 = .ok (.lshr, 1) := by decide +kernel
theorem dX9_log_44 : decode cX9_log 44 = .ok (.lstore_n 2, 1) := by decide +kernel
theorem dX9_log_45 : decode cX9_log 45 = .ok (.lload 4, 2) := by decide +kernel
theorem dX9_log_47 : decode cX9_log 47 = .ok (.iconst 1, 1) := by decide +kernel
theorem dX9_log_48 : decode cX9_log 48 = .ok (.lshl, 1) := by decide +kernel
theorem dX9_log_49 : decode cX9_log 49 = .ok (.lstore 4, 2) := by decide +kernel
theorem dX9_log_51 : decode cX9_log 51 = .ok (.lload_n 2, 1) := by decide +kernel
theorem dX9_log_52 : decode cX9_log 52 = .ok (.ldc2_w 137, 3) := by decide +kernel
theorem dX9_log_55 : decode cX9_log 55 = .ok (.lcmp, 1) := by decide +kernel
theorem dX9_log_56 : decode cX9_log 56 = .ok (.ifCond .lt 13, 3) := by decide +kernel
theorem dX9_log_59 : decode cX9_log 59 = .ok (.lload 4, 2) := by decide +kernel
theorem dX9_log_61 : decode cX9_log 61 = .ok (.lconst 1, 1) := by decide +kernel
theorem dX9_log_62 : decode cX9_log 62 = .ok (.lor, 1) := by decide +kernel
theorem dX9_log_63 : decode cX9_log 63 = .ok (.lstore 4, 2) := by decide +kernel
theorem dX9_log_65 : decode cX9_log 65 = .ok (.lload_n 2, 1) := by decide +kernel
theorem dX9_log_66 : decode cX9_log 66 = .ok (.iconst 1, 1) := by decide +kernel
theorem dX9_log_67 : decode cX9_log 67 = .ok (.lshr, 1) := by decide +kernel
theorem dX9_log_68 : decode cX9_log 68 = .ok (.lstore_n 2, 1) := by decide +kernel
theorem dX9_log_69 : decode cX9_log 69 = .ok (.iinc 6 1, 3) := by decide +kernel
theorem dX9_log_72 : decode cX9_log 72 = .ok (.goto (-41), 3) := by decide +kernel
theorem dX9_log_75 : decode cX9_log 75 = .ok (.lload 4, 2) := by decide +kernel
theorem dX9_log_77 : decode cX9_log 77 = .ok (.lreturn, 1) := by decide +kernel
set_option maxRecDepth 20000 in
theorem ggX9_gain_X9_isRow : GoodIn wsX9_gain wsX9_isRow := goodIn_r _ [7, 8, 9, 10, 6, 11, 12, 13, 14, 48, 49, 50, 51, 52, 53, 54, 55, 56, 57, 58, 59, 60, 61] (by decide +kernel) (by decide +kernel)
set_option maxRecDepth 20000 in
theorem gX9_gain_X9_isRow : GoodIn wsX9_gain (wsV RX9 64 RX9 yX9_isRow wsX9_isRow) := goodIn_app (goodIn_of _ (by decide +kernel)) ggX9_gain_X9_isRow
set_option maxRecDepth 20000 in
theorem ggX9_gain_X9_isDeep : GoodIn wsX9_gain wsX9_isDeep := goodIn_r _ [17] (by decide +kernel) (by decide +kernel)
set_option maxRecDepth 20000 in
theorem gX9_gain_X9_isDeep : GoodIn wsX9_gain (va_wsS RX9 127 yX9_isDeep wsX9_isDeep) := goodIn_app (goodIn_of _ (by decide +kernel)) ggX9_gain_X9_isDeep
set_option maxRecDepth 20000 in
theorem ggX9_gain_X9_first : GoodIn wsX9_gain wsX9_first := goodIn_r _ [21, 22, 23, 24, 6, 25, 26, 48, 49, 50, 51, 52, 53, 54, 55, 56, 57, 58, 59, 60, 61] (by decide +kernel) (by decide +kernel)
set_option maxRecDepth 20000 in
theorem gX9_gain_X9_first : GoodIn wsX9_gain (wsV RX9 89 RX9 yX9_first wsX9_first) := goodIn_app (goodIn_of _ (by decide +kernel)) ggX9_gain_X9_first
set_option maxRecDepth 20000 in
theorem ggX9_gain_X9_doc : GoodIn wsX9_gain wsX9_doc := goodIn_r _ [30, 31, 48, 49, 50, 51, 52, 53, 54, 55, 56, 57, 58, 59, 60, 61] (by decide +kernel) (by decide +kernel)
set_option maxRecDepth 20000 in
theorem gX9_gain_X9_doc : GoodIn wsX9_gain (wsV RX9 57 RX9 yX9_doc wsX9_doc) := goodIn_app (goodIn_of _ (by decide +kernel)) ggX9_gain_X9_doc
set_option maxRecDepth 20000 in
theorem ggX9_gain_X9_isGood : GoodIn wsX9_gain wsX9_isGood := goodIn_r _ [35, 36, 37, 38, 6, 39, 40, 48, 49, 50, 51, 52, 53, 54, 55, 56, 57, 58, 59, 60, 61] (by decide +kernel) (by decide +kernel)
set_option maxRecDepth 20000 in
theorem gX9_gain_X9_isGood : GoodIn wsX9_gain (wsV RX9 92 RX9 yX9_isGood wsX9_isGood) := goodIn_app (goodIn_of _ (by decide +kernel)) ggX9_gain_X9_isGood
set_option maxRecDepth 20000 in
theorem ggX9_gain_X9_gradeOf : GoodIn wsX9_gain wsX9_gradeOf := goodIn_r _ [39, 40, 48, 49, 50, 51, 52, 53, 54, 55, 56, 57, 58, 59, 60, 61] (by decide +kernel) (by decide +kernel)
set_option maxRecDepth 20000 in
theorem gX9_gain_X9_gradeOf : GoodIn wsX9_gain (wsV RX9 50 RX9 yX9_gradeOf wsX9_gradeOf) := goodIn_app (goodIn_of _ (by decide +kernel)) ggX9_gain_X9_gradeOf
set_option maxRecDepth 20000 in
theorem ggX9_gain_X9_worth : GoodIn wsX9_gain wsX9_worth := goodIn_r _ [43] (by decide +kernel) (by decide +kernel)
set_option maxRecDepth 20000 in
theorem gX9_gain_X9_worth : GoodIn wsX9_gain (va_wsS RX9 102 yX9_worth wsX9_worth) := goodIn_app (goodIn_of _ (by decide +kernel)) ggX9_gain_X9_worth
set_option maxRecDepth 20000 in
theorem ggX9_gain_X9_log : GoodIn wsX9_gain wsX9_log := goodIn_r _ [46, 47] (by decide +kernel) (by decide +kernel)
set_option maxRecDepth 20000 in
theorem gX9_gain_X9_log : GoodIn wsX9_gain (va_wsS RX9 143 yX9_log wsX9_log) := goodIn_app (goodIn_of _ (by decide +kernel)) ggX9_gain_X9_log
theorem dX9_gain_0 : decode cX9_gain 0 = .ok (.aload_n 0, 1) := by decide +kernel
theorem dX9_gain_1 : decode cX9_gain 1 = .ok (.iload_n 1, 1) := by decide +kernel
theorem dX9_gain_2 : decode cX9_gain 2 = .ok (.iload_n 2, 1) := by decide +kernel
theorem dX9_gain_3 : decode cX9_gain 3 = .ok (.invokevirtual 64, 3) := by decide +kernel
theorem dX9_gain_6 : decode cX9_gain 6 = .ok (.ifCond .ne 7, 3) := by decide +kernel
theorem dX9_gain_9 : decode cX9_gain 9 = .ok (.ldc2_w 139, 3) := by decide +kernel
theorem dX9_gain_12 : decode cX9_gain 12 = .ok (.lreturn, 1) := by decide +kernel
theorem dX9_gain_13 : decode cX9_gain 13 = .ok (.iload_n 3, 1) := by decide +kernel
theorem dX9_gain_14 : decode cX9_gain 14 = .ok (.invokestatic 127, 3) := by decide +kernel
theorem dX9_gain_17 : decode cX9_gain 17 = .ok (.ifCond .ne 7, 3) := by decide +kernel
theorem dX9_gain_20 : decode cX9_gain 20 = .ok (.ldc2_w 141, 3) := by decide +kernel
theorem dX9_gain_23 : decode cX9_gain 23 = .ok (.lreturn, 1) := by decide +kernel
theorem dX9_gain_24 : decode cX9_gain 24 = .ok (.lconst 0, 1) := by decide +kernel
theorem dX9_gain_25 : decode cX9_gain 25 = .ok (.lstore 5, 2) := by decide +kernel
theorem dX9_gain_27 : decode cX9_gain 27 = .ok (.iconst 0, 1) := by decide +kernel
theorem dX9_gain_28 : decode cX9_gain 28 = .ok (.istore 7, 2) := by decide +kernel
theorem dX9_gain_30 : decode cX9_gain 30 = .ok (.iload 7, 2) := by decide +kernel
theorem dX9_gain_32 : decode cX9_gain 32 = .ok (.aload_n 0, 1) := by decide +kernel
theorem dX9_gain_33 : decode cX9_gain 33 = .ok (.iload_n 1, 1) := by decide +kernel
theorem dX9_gain_34 : decode cX9_gain 34 = .ok (.iload_n 2, 1) := by decide +kernel
theorem dX9_gain_35 : decode cX9_gain 35 = .ok (.iload_n 3, 1) := by decide +kernel
theorem dX9_gain_36 : decode cX9_gain 36 = .ok (.invokevirtual 89, 3) := by decide +kernel
theorem dX9_gain_39 : decode cX9_gain 39 = .ok (.if_icmp .ge 84, 3) := by decide +kernel
theorem dX9_gain_42 : decode cX9_gain 42 = .ok (.aload_n 0, 1) := by decide +kernel
theorem dX9_gain_43 : decode cX9_gain 43 = .ok (.iload_n 1, 1) := by decide +kernel
theorem dX9_gain_44 : decode cX9_gain 44 = .ok (.iload_n 2, 1) := by decide +kernel
theorem dX9_gain_45 : decode cX9_gain 45 = .ok (.iload 7, 2) := by decide +kernel
theorem dX9_gain_47 : decode cX9_gain 47 = .ok (.invokevirtual 57, 3) := by decide +kernel
theorem dX9_gain_50 : decode cX9_gain 50 = .ok (.istore 8, 2) := by decide +kernel
theorem dX9_gain_52 : decode cX9_gain 52 = .ok (.aload_n 0, 1) := by decide +kernel
theorem dX9_gain_53 : decode cX9_gain 53 = .ok (.iload_n 2, 1) := by decide +kernel
theorem dX9_gain_54 : decode cX9_gain 54 = .ok (.iload 8, 2) := by decide +kernel
theorem dX9_gain_56 : decode cX9_gain 56 = .ok (.invokevirtual 92, 3) := by decide +kernel
theorem dX9_gain_59 : decode cX9_gain 59 = .ok (.ifCond .eq 58, 3) := by decide +kernel
theorem dX9_gain_62 : decode cX9_gain 62 = .ok (.aload_n 0, 1) := by decide +kernel
theorem dX9_gain_63 : decode cX9_gain 63 = .ok (.iload_n 2, 1) := by decide +kernel
theorem dX9_gain_64 : decode cX9_gain 64 = .ok (.iload 8, 2) := by decide +kernel
theorem dX9_gain_66 : decode cX9_gain 66 = .ok (.invokevirtual 50, 3) := by decide +kernel
theorem dX9_gain_69 : decode cX9_gain 69 = .ok (.invokestatic 102, 3) := by decide +kernel
theorem dX9_gain_72 : decode cX9_gain 72 = .ok (.i2l, 1) := by decide +kernel
theorem dX9_gain_73 : decode cX9_gain 73 = .ok (.bipush 40, 2) := by decide +kernel
theorem dX9_gain_75 : decode cX9_gain 75 = .ok (.lshl, 1) := by decide +kernel
theorem dX9_gain_76 : decode cX9_gain 76 = .ok (.lstore 9, 2) := by decide +kernel
theorem dX9_gain_78 : decode cX9_gain 78 = .ok (.iload 7, 2) := by decide +kernel
theorem dX9_gain_80 : decode cX9_gain 80 = .ok (.iconst 2, 1) := by decide +kernel
theorem dX9_gain_81 : decode cX9_gain 81 = .ok (.iadd, 1) := by decide +kernel
theorem dX9_gain_82 : decode cX9_gain 82 = .ok (.invokestatic 143, 3) := by decide +kernel
theorem dX9_gain_85 : decode cX9_gain 85 = .ok (.lstore 11, 2) := by decide +kernel
theorem dX9_gain_87 : decode cX9_gain 87 = .ok (.lload 5, 2) := by decide +kernel
theorem dX9_gain_89 : decode cX9_gain 89 = .ok (.iload 4, 2) := by decide +kernel
theorem dX9_gain_91 : decode cX9_gain 91 = .ok (.ifCond .eq 16, 3) := by decide +kernel
theorem dX9_gain_94 : decode cX9_gain 94 = .ok (.lload 9, 2) := by decide +kernel
theorem dX9_gain_96 : decode cX9_gain 96 = .ok (.lload 11, 2) := by decide +kernel
theorem dX9_gain_98 : decode cX9_gain 98 = .ok (.ladd, 1) := by decide +kernel
theorem dX9_gain_99 : decode cX9_gain 99 = .ok (.lconst 1, 1) := by decide +kernel
theorem dX9_gain_100 : decode cX9_gain 100 = .ok (.lsub, 1) := by decide +kernel
theorem dX9_gain_101 : decode cX9_gain 101 = .ok (.lload 11, 2) := by decide +kernel
theorem dX9_gain_103 : decode cX9_gain 103 = .ok (.ldiv, 1) := by decide +kernel
theorem dX9_gain_104 : decode cX9_gain 104 = .ok (.goto 10, 3) := by decide +kernel
theorem dX9_gain_107 : decode cX9_gain 107 = .ok (.lload 9, 2) := by decide +kernel
theorem dX9_gain_109 : decode cX9_gain 109 = .ok (.lload 11, 2) := by decide +kernel
theorem dX9_gain_111 : decode cX9_gain 111 = .ok (.lconst 1, 1) := by decide +kernel
theorem dX9_gain_112 : decode cX9_gain 112 = .ok (.ladd, 1) := by decide +kernel
theorem dX9_gain_113 : decode cX9_gain 113 = .ok (.ldiv, 1) := by decide +kernel
theorem dX9_gain_114 : decode cX9_gain 114 = .ok (.ladd, 1) := by decide +kernel
theorem dX9_gain_115 : decode cX9_gain 115 = .ok (.lstore 5, 2) := by decide +kernel
theorem dX9_gain_117 : decode cX9_gain 117 = .ok (.iinc 7 1, 3) := by decide +kernel
theorem dX9_gain_120 : decode cX9_gain 120 = .ok (.goto (-90), 3) := by decide +kernel
theorem dX9_gain_123 : decode cX9_gain 123 = .ok (.lload 5, 2) := by decide +kernel
theorem dX9_gain_125 : decode cX9_gain 125 = .ok (.lreturn, 1) := by decide +kernel
set_option maxRecDepth 20000 in
theorem ggX9_isMean_X9_isDeep : GoodIn wsX9_isMean wsX9_isDeep := goodIn_r _ [4] (by decide +kernel) (by decide +kernel)
set_option maxRecDepth 20000 in
theorem gX9_isMean_X9_isDeep : GoodIn wsX9_isMean (va_wsS RX9 127 yX9_isDeep wsX9_isDeep) := goodIn_app (goodIn_of _ (by decide +kernel)) ggX9_isMean_X9_isDeep
theorem dX9_isMean_0 : decode cX9_isMean 0 = .ok (.iload_n 1, 1) := by decide +kernel
theorem dX9_isMean_1 : decode cX9_isMean 1 = .ok (.ifCond .lt 30, 3) := by decide +kernel
theorem dX9_isMean_4 : decode cX9_isMean 4 = .ok (.iload_n 1, 1) := by decide +kernel
theorem dX9_isMean_5 : decode cX9_isMean 5 = .ok (.bipush 8, 2) := by decide +kernel
theorem dX9_isMean_7 : decode cX9_isMean 7 = .ok (.if_icmp .gt 24, 3) := by decide +kernel
theorem dX9_isMean_10 : decode cX9_isMean 10 = .ok (.iload_n 1, 1) := by decide +kernel
theorem dX9_isMean_11 : decode cX9_isMean 11 = .ok (.iconst 4, 1) := by decide +kernel
theorem dX9_isMean_12 : decode cX9_isMean 12 = .ok (.if_icmp .eq 19, 3) := by decide +kernel
theorem dX9_isMean_15 : decode cX9_isMean 15 = .ok (.iload_n 1, 1) := by decide +kernel
theorem dX9_isMean_16 : decode cX9_isMean 16 = .ok (.iconst 5, 1) := by decide +kernel
theorem dX9_isMean_17 : decode cX9_isMean 17 = .ok (.if_icmp .eq 14, 3) := by decide +kernel
theorem dX9_isMean_20 : decode cX9_isMean 20 = .ok (.iload_n 2, 1) := by decide +kernel
theorem dX9_isMean_21 : decode cX9_isMean 21 = .ok (.invokestatic 127, 3) := by decide +kernel
theorem dX9_isMean_24 : decode cX9_isMean 24 = .ok (.ifCond .eq 7, 3) := by decide +kernel
theorem dX9_isMean_27 : decode cX9_isMean 27 = .ok (.iconst 1, 1) := by decide +kernel
theorem dX9_isMean_28 : decode cX9_isMean 28 = .ok (.goto 4, 3) := by decide +kernel
theorem dX9_isMean_31 : decode cX9_isMean 31 = .ok (.iconst 0, 1) := by decide +kernel
theorem dX9_isMean_32 : decode cX9_isMean 32 = .ok (.ireturn, 1) := by decide +kernel
set_option maxRecDepth 20000 in
theorem ggX9_counts_X9_rs : GoodIn wsX9_counts wsX9_rs := goodIn_r _ [6, 7, 8, 9, 5, 10, 11, 12, 13, 14, 15, 16, 17, 18, 19, 20, 21, 22, 23, 24, 25, 26, 27, 28, 29] (by decide +kernel) (by decide +kernel)
set_option maxRecDepth 20000 in
theorem gX9_counts_X9_rs : GoodIn wsX9_counts (wsV RX9 71 RX9 yX9_rs wsX9_rs) := goodIn_app (goodIn_of _ (by decide +kernel)) ggX9_counts_X9_rs
theorem dX9_counts_0 : decode cX9_counts 0 = .ok (.aload_n 0, 1) := by decide +kernel
theorem dX9_counts_1 : decode cX9_counts 1 = .ok (.getfield 19, 3) := by decide +kernel
theorem dX9_counts_4 : decode cX9_counts 4 = .ok (.bipush 8, 2) := by decide +kernel
theorem dX9_counts_6 : decode cX9_counts 6 = .ok (.iload_n 1, 1) := by decide +kernel
theorem dX9_counts_7 : decode cX9_counts 7 = .ok (.imul, 1) := by decide +kernel
theorem dX9_counts_8 : decode cX9_counts 8 = .ok (.iload_n 2, 1) := by decide +kernel
theorem dX9_counts_9 : decode cX9_counts 9 = .ok (.iadd, 1) := by decide +kernel
theorem dX9_counts_10 : decode cX9_counts 10 = .ok (.baload, 1) := by decide +kernel
theorem dX9_counts_11 : decode cX9_counts 11 = .ok (.ifCond .eq 15, 3) := by decide +kernel
theorem dX9_counts_14 : decode cX9_counts 14 = .ok (.aload_n 0, 1) := by decide +kernel
theorem dX9_counts_15 : decode cX9_counts 15 = .ok (.iload_n 2, 1) := by decide +kernel
theorem dX9_counts_16 : decode cX9_counts 16 = .ok (.invokevirtual 71, 3) := by decide +kernel
theorem dX9_counts_19 : decode cX9_counts 19 = .ok (.ifCond .le 7, 3) := by decide +kernel
theorem dX9_counts_22 : decode cX9_counts 22 = .ok (.iconst 1, 1) := by decide +kernel
theorem dX9_counts_23 : decode cX9_counts 23 = .ok (.goto 4, 3) := by decide +kernel
theorem dX9_counts_26 : decode cX9_counts 26 = .ok (.iconst 0, 1) := by decide +kernel
theorem dX9_counts_27 : decode cX9_counts 27 = .ok (.ireturn, 1) := by decide +kernel
set_option maxRecDepth 20000 in
theorem ggX9_mean_X9_isRanker : GoodIn wsX9_mean wsX9_isRanker := goodIn_r _ [6] (by decide +kernel) (by decide +kernel)
set_option maxRecDepth 20000 in
theorem gX9_mean_X9_isRanker : GoodIn wsX9_mean (va_wsS RX9 43 yX9_isRanker wsX9_isRanker) := goodIn_app (goodIn_of _ (by decide +kernel)) ggX9_mean_X9_isRanker
set_option maxRecDepth 20000 in
theorem ggX9_mean_X9_isMean : GoodIn wsX9_mean wsX9_isMean := goodIn_r _ [10, 11, 12, 5, 13] (by decide +kernel) (by decide +kernel)
set_option maxRecDepth 20000 in
theorem gX9_mean_X9_isMean : GoodIn wsX9_mean (wsV RX9 147 RX9 yX9_isMean wsX9_isMean) := goodIn_app (goodIn_of _ (by decide +kernel)) ggX9_mean_X9_isMean
set_option maxRecDepth 20000 in
theorem ggX9_mean_X9_counts : GoodIn wsX9_mean wsX9_counts := goodIn_r _ [17, 18, 19, 20, 21, 5, 22, 23, 24, 25, 26, 27, 28, 29, 30, 31, 106, 107, 108, 109, 110, 111, 112, 113, 114, 115, 116, 117, 118, 119] (by decide +kernel) (by decide +kernel)
set_option maxRecDepth 20000 in
theorem gX9_mean_X9_counts : GoodIn wsX9_mean (wsV RX9 150 RX9 yX9_counts wsX9_counts) := goodIn_app (goodIn_of _ (by decide +kernel)) ggX9_mean_X9_counts
set_option maxRecDepth 20000 in
theorem ggX9_mean_X9_reckon : GoodIn wsX9_mean wsX9_reckon := goodIn_r _ [35, 36, 37, 38, 5, 39, 40, 41, 42, 43, 44, 45, 46, 47, 48, 49, 50, 51, 52, 53, 54, 55, 56, 57, 27, 28, 29, 30, 31, 58, 59, 60, 61, 1, 2, 62, 63, 64, 19, 20, 21, 22, 23, 24, 25, 26, 65, 66, 67, 68, 69, 70, 71, 72, 73, 74, 75, 76, 77, 78, 79, 80, 81, 82, 83, 84, 85, 86, 87, 88, 89, 90, 91, 92, 93, 94, 95, 96, 97, 98, 99, 106, 107, 108, 109, 110, 111, 112, 113, 114, 115, 116, 117, 118, 119] (by decide +kernel) (by decide +kernel)
set_option maxRecDepth 20000 in
theorem gX9_mean_X9_reckon : GoodIn wsX9_mean (wsV RX9 130 RX9 yX9_reckon wsX9_reckon) := goodIn_app (goodIn_of _ (by decide +kernel)) ggX9_mean_X9_reckon
set_option maxRecDepth 20000 in
theorem ggX9_mean_X9_plus : GoodIn wsX9_mean wsX9_plus := goodIn_r _ [72, 2, 1, 62, 63, 5, 64, 58, 59, 60, 61, 106, 107, 108, 109, 110, 111, 112, 113, 114, 115, 116, 117, 118, 119] (by decide +kernel) (by decide +kernel)
set_option maxRecDepth 20000 in
theorem gX9_mean_X9_plus : GoodIn wsX9_mean (wsV RX9 95 RX9 yX9_plus wsX9_plus) := goodIn_app (goodIn_of _ (by decide +kernel)) ggX9_mean_X9_plus
set_option maxRecDepth 20000 in
theorem ggX9_mean_X9_make : GoodIn wsX9_mean wsX9_make := goodIn_r _ [61, 1, 2, 62, 63, 5, 64, 106, 107, 108, 109, 110, 111, 112, 113, 114, 115, 116, 117, 118, 119] (by decide +kernel) (by decide +kernel)
set_option maxRecDepth 20000 in
theorem gX9_mean_X9_make : GoodIn wsX9_mean (wsV RX9 82 RX9 yX9_make wsX9_make) := goodIn_app (goodIn_of _ (by decide +kernel)) ggX9_mean_X9_make
set_option maxRecDepth 20000 in
theorem ggX9_mean_X9_over : GoodIn wsX9_mean wsX9_over := goodIn_r _ [76, 1, 2, 58, 59, 60, 5, 61, 62, 63, 64, 106, 107, 108, 109, 110, 111, 112, 113, 114, 115, 116, 117, 118, 119] (by decide +kernel) (by decide +kernel)
set_option maxRecDepth 20000 in
theorem gX9_mean_X9_over : GoodIn wsX9_mean (wsV RX9 98 RX9 yX9_over wsX9_over) := goodIn_app (goodIn_of _ (by decide +kernel)) ggX9_mean_X9_over
set_option maxRecDepth 20000 in
theorem ggX9_mean_X9_show : GoodIn wsX9_mean wsX9_show := goodIn_r _ [103, 1, 104, 2, 105, 106, 107, 108, 109, 110, 111, 112, 113, 114, 115, 116, 117, 118, 119] (by decide +kernel) (by decide +kernel)
set_option maxRecDepth 20000 in
theorem gX9_mean_X9_show : GoodIn wsX9_mean (wsV RX9 134 RX9 yX9_show wsX9_show) := goodIn_app (goodIn_of _ (by decide +kernel)) ggX9_mean_X9_show
theorem dX9_mean_0 : decode cX9_mean 0 = .ok (.iload_n 1, 1) := by decide +kernel
theorem dX9_mean_1 : decode cX9_mean 1 = .ok (.invokestatic 43, 3) := by decide +kernel
theorem dX9_mean_4 : decode cX9_mean 4 = .ok (.ifCond .ne 5, 3) := by decide +kernel
theorem dX9_mean_7 : decode cX9_mean 7 = .ok (.iconst (-1), 1) := by decide +kernel
theorem dX9_mean_8 : decode cX9_mean 8 = .ok (.ireturn, 1) := by decide +kernel
theorem dX9_mean_9 : decode cX9_mean 9 = .ok (.aload_n 0, 1) := by decide +kernel
theorem dX9_mean_10 : decode cX9_mean 10 = .ok (.iload_n 2, 1) := by decide +kernel
theorem dX9_mean_11 : decode cX9_mean 11 = .ok (.iload_n 3, 1) := by decide +kernel
theorem dX9_mean_12 : decode cX9_mean 12 = .ok (.invokevirtual 147, 3) := by decide +kernel
theorem dX9_mean_15 : decode cX9_mean 15 = .ok (.ifCond .ne 6, 3) := by decide +kernel
theorem dX9_mean_18 : decode cX9_mean 18 = .ok (.bipush (-2), 2) := by decide +kernel
theorem dX9_mean_20 : decode cX9_mean 20 = .ok (.ireturn, 1) := by decide +kernel
theorem dX9_mean_21 : decode cX9_mean 21 = .ok (.iconst 0, 1) := by decide +kernel
theorem dX9_mean_22 : decode cX9_mean 22 = .ok (.istore 4, 2) := by decide +kernel
theorem dX9_mean_24 : decode cX9_mean 24 = .ok (.lconst 0, 1) := by decide +kernel
theorem dX9_mean_25 : decode cX9_mean 25 = .ok (.lstore 5, 2) := by decide +kernel
theorem dX9_mean_27 : decode cX9_mean 27 = .ok (.lconst 1, 1) := by decide +kernel
theorem dX9_mean_28 : decode cX9_mean 28 = .ok (.lstore 7, 2) := by decide +kernel
theorem dX9_mean_30 : decode cX9_mean 30 = .ok (.iconst 0, 1) := by decide +kernel
theorem dX9_mean_31 : decode cX9_mean 31 = .ok (.istore 9, 2) := by decide +kernel
theorem dX9_mean_33 : decode cX9_mean 33 = .ok (.iload 9, 2) := by decide +kernel
theorem dX9_mean_35 : decode cX9_mean 35 = .ok (.bipush 8, 2) := by decide +kernel
theorem dX9_mean_37 : decode cX9_mean 37 = .ok (.if_icmp .ge 51, 3) := by decide +kernel
theorem dX9_mean_40 : decode cX9_mean 40 = .ok (.aload_n 0, 1) := by decide +kernel
theorem dX9_mean_41 : decode cX9_mean 41 = .ok (.iload_n 1, 1) := by decide +kernel
theorem dX9_mean_42 : decode cX9_mean 42 = .ok (.iload 9, 2) := by decide +kernel
theorem dX9_mean_44 : decode cX9_mean 44 = .ok (.invokevirtual 150, 3) := by decide +kernel
theorem dX9_mean_47 : decode cX9_mean 47 = .ok (.ifCond .eq 35, 3) := by decide +kernel
theorem dX9_mean_50 : decode cX9_mean 50 = .ok (.iinc 4 1, 3) := by decide +kernel
theorem dX9_mean_53 : decode cX9_mean 53 = .ok (.aload_n 0, 1) := by decide +kernel
theorem dX9_mean_54 : decode cX9_mean 54 = .ok (.iload_n 1, 1) := by decide +kernel
theorem dX9_mean_55 : decode cX9_mean 55 = .ok (.iload 9, 2) := by decide +kernel
theorem dX9_mean_57 : decode cX9_mean 57 = .ok (.iload_n 2, 1) := by decide +kernel
theorem dX9_mean_58 : decode cX9_mean 58 = .ok (.iload_n 3, 1) := by decide +kernel
theorem dX9_mean_59 : decode cX9_mean 59 = .ok (.invokevirtual 130, 3) := by decide +kernel
theorem dX9_mean_62 : decode cX9_mean 62 = .ok (.aload_n 0, 1) := by decide +kernel
theorem dX9_mean_63 : decode cX9_mean 63 = .ok (.lload 5, 2) := by decide +kernel
theorem dX9_mean_65 : decode cX9_mean 65 = .ok (.lload 7, 2) := by decide +kernel
theorem dX9_mean_67 : decode cX9_mean 67 = .ok (.invokevirtual 95, 3) := by decide +kernel
theorem dX9_mean_70 : decode cX9_mean 70 = .ok (.aload_n 0, 1) := by decide +kernel
theorem dX9_mean_71 : decode cX9_mean 71 = .ok (.getfield 75, 3) := by decide +kernel
theorem dX9_mean_74 : decode cX9_mean 74 = .ok (.lstore 5, 2) := by decide +kernel
theorem dX9_mean_76 : decode cX9_mean 76 = .ok (.aload_n 0, 1) := by decide +kernel
theorem dX9_mean_77 : decode cX9_mean 77 = .ok (.getfield 27, 3) := by decide +kernel
theorem dX9_mean_80 : decode cX9_mean 80 = .ok (.lstore 7, 2) := by decide +kernel
theorem dX9_mean_82 : decode cX9_mean 82 = .ok (.iinc 9 1, 3) := by decide +kernel
theorem dX9_mean_85 : decode cX9_mean 85 = .ok (.goto (-52), 3) := by decide +kernel
theorem dX9_mean_88 : decode cX9_mean 88 = .ok (.iload 4, 2) := by decide +kernel
theorem dX9_mean_90 : decode cX9_mean 90 = .ok (.ifCond .ne 6, 3) := by decide +kernel
theorem dX9_mean_93 : decode cX9_mean 93 = .ok (.bipush (-3), 2) := by decide +kernel
theorem dX9_mean_95 : decode cX9_mean 95 = .ok (.ireturn, 1) := by decide +kernel
theorem dX9_mean_96 : decode cX9_mean 96 = .ok (.aload_n 0, 1) := by decide +kernel
theorem dX9_mean_97 : decode cX9_mean 97 = .ok (.lload 5, 2) := by decide +kernel
theorem dX9_mean_99 : decode cX9_mean 99 = .ok (.lload 7, 2) := by decide +kernel
theorem dX9_mean_101 : decode cX9_mean 101 = .ok (.invokevirtual 82, 3) := by decide +kernel
theorem dX9_mean_104 : decode cX9_mean 104 = .ok (.aload_n 0, 1) := by decide +kernel
theorem dX9_mean_105 : decode cX9_mean 105 = .ok (.iload 4, 2) := by decide +kernel
theorem dX9_mean_107 : decode cX9_mean 107 = .ok (.i2l, 1) := by decide +kernel
theorem dX9_mean_108 : decode cX9_mean 108 = .ok (.invokevirtual 98, 3) := by decide +kernel
theorem dX9_mean_111 : decode cX9_mean 111 = .ok (.aload_n 0, 1) := by decide +kernel
theorem dX9_mean_112 : decode cX9_mean 112 = .ok (.invokevirtual 134, 3) := by decide +kernel
theorem dX9_mean_115 : decode cX9_mean 115 = .ok (.iload 4, 2) := by decide +kernel
theorem dX9_mean_117 : decode cX9_mean 117 = .ok (.ireturn, 1) := by decide +kernel
set_option maxRecDepth 20000 in
theorem ggX9_differences_X9_counts : GoodIn wsX9_differences wsX9_counts := goodIn_r _ [9, 10, 11, 12, 13, 8, 14, 15, 16, 17, 18, 19, 20, 21, 22, 23, 92, 93, 94, 95, 96, 97, 98, 99, 100, 101, 102, 103, 104, 105] (by decide +kernel) (by decide +kernel)
set_option maxRecDepth 20000 in
theorem gX9_differences_X9_counts : GoodIn wsX9_differences (wsV RX9 150 RX9 yX9_counts wsX9_counts) := goodIn_app (goodIn_of _ (by decide +kernel)) ggX9_differences_X9_counts
set_option maxRecDepth 20000 in
theorem ggX9_differences_X9_reckon : GoodIn wsX9_differences wsX9_reckon := goodIn_r _ [27, 28, 29, 30, 8, 31, 32, 33, 34, 35, 36, 37, 38, 39, 40, 41, 42, 43, 44, 45, 46, 47, 48, 49, 19, 20, 21, 22, 23, 50, 51, 52, 53, 1, 2, 54, 55, 56, 11, 12, 13, 14, 15, 16, 17, 18, 57, 58, 59, 60, 61, 62, 63, 64, 65, 66, 67, 68, 69, 70, 71, 72, 73, 74, 75, 76, 77, 78, 79, 80, 81, 82, 83, 84, 85, 86, 87, 88, 89, 90, 91, 92, 93, 94, 95, 96, 97, 98, 99, 100, 101, 102, 103, 104, 105] (by decide +kernel) (by decide +kernel)
set_option maxRecDepth 20000 in
theorem gX9_differences_X9_reckon : GoodIn wsX9_differences (wsV RX9 130 RX9 yX9_reckon wsX9_reckon) := goodIn_app (goodIn_of _ (by decide +kernel)) ggX9_differences_X9_reckon
set_option maxRecDepth 20000 in
theorem ggX9_differences_X9_plus : GoodIn wsX9_differences wsX9_plus := goodIn_r _ [64, 2, 1, 54, 55, 8, 56, 50, 51, 52, 53, 92, 93, 94, 95, 96, 97, 98, 99, 100, 101, 102, 103, 104, 105] (by decide +kernel) (by decide +kernel)
set_option maxRecDepth 20000 in
theorem gX9_differences_X9_plus : GoodIn wsX9_differences (wsV RX9 95 RX9 yX9_plus wsX9_plus) := goodIn_app (goodIn_of _ (by decide +kernel)) ggX9_differences_X9_plus
theorem dX9_differences_0 : decode cX9_differences 0 = .ok (.iconst 0, 1) := by decide +kernel
theorem dX9_differences_1 : decode cX9_differences 1 = .ok (.istore 5, 2) := by decide +kernel
theorem dX9_differences_3 : decode cX9_differences 3 = .ok (.iconst 0, 1) := by decide +kernel
theorem dX9_differences_4 : decode cX9_differences 4 = .ok (.istore 6, 2) := by decide +kernel
theorem dX9_differences_6 : decode cX9_differences 6 = .ok (.iload 6, 2) := by decide +kernel
theorem dX9_differences_8 : decode cX9_differences 8 = .ok (.bipush 8, 2) := by decide +kernel
theorem dX9_differences_10 : decode cX9_differences 10 = .ok (.if_icmp .ge 95, 3) := by decide +kernel
theorem dX9_differences_13 : decode cX9_differences 13 = .ok (.aload_n 0, 1) := by decide +kernel
theorem dX9_differences_14 : decode cX9_differences 14 = .ok (.iload_n 1, 1) := by decide +kernel
theorem dX9_differences_15 : decode cX9_differences 15 = .ok (.iload 6, 2) := by decide +kernel
theorem dX9_differences_17 : decode cX9_differences 17 = .ok (.invokevirtual 150, 3) := by decide +kernel
theorem dX9_differences_20 : decode cX9_differences 20 = .ok (.ifCond .eq 79, 3) := by decide +kernel
theorem dX9_differences_23 : decode cX9_differences 23 = .ok (.aload_n 0, 1) := by decide +kernel
theorem dX9_differences_24 : decode cX9_differences 24 = .ok (.iload_n 2, 1) := by decide +kernel
theorem dX9_differences_25 : decode cX9_differences 25 = .ok (.iload 6, 2) := by decide +kernel
theorem dX9_differences_27 : decode cX9_differences 27 = .ok (.invokevirtual 150, 3) := by decide +kernel
theorem dX9_differences_30 : decode cX9_differences 30 = .ok (.ifCond .eq 69, 3) := by decide +kernel
theorem dX9_differences_33 : decode cX9_differences 33 = .ok (.aload_n 0, 1) := by decide +kernel
theorem dX9_differences_34 : decode cX9_differences 34 = .ok (.iload_n 2, 1) := by decide +kernel
theorem dX9_differences_35 : decode cX9_differences 35 = .ok (.iload 6, 2) := by decide +kernel
theorem dX9_differences_37 : decode cX9_differences 37 = .ok (.iload_n 3, 1) := by decide +kernel
theorem dX9_differences_38 : decode cX9_differences 38 = .ok (.iload 4, 2) := by decide +kernel
theorem dX9_differences_40 : decode cX9_differences 40 = .ok (.invokevirtual 130, 3) := by decide +kernel
theorem dX9_differences_43 : decode cX9_differences 43 = .ok (.aload_n 0, 1) := by decide +kernel
theorem dX9_differences_44 : decode cX9_differences 44 = .ok (.getfield 75, 3) := by decide +kernel
theorem dX9_differences_47 : decode cX9_differences 47 = .ok (.lstore 7, 2) := by decide +kernel
theorem dX9_differences_49 : decode cX9_differences 49 = .ok (.aload_n 0, 1) := by decide +kernel
theorem dX9_differences_50 : decode cX9_differences 50 = .ok (.getfield 27, 3) := by decide +kernel
theorem dX9_differences_53 : decode cX9_differences 53 = .ok (.lstore 9, 2) := by decide +kernel
theorem dX9_differences_55 : decode cX9_differences 55 = .ok (.aload_n 0, 1) := by decide +kernel
theorem dX9_differences_56 : decode cX9_differences 56 = .ok (.iload_n 1, 1) := by decide +kernel
theorem dX9_differences_57 : decode cX9_differences 57 = .ok (.iload 6, 2) := by decide +kernel
theorem dX9_differences_59 : decode cX9_differences 59 = .ok (.iload_n 3, 1) := by decide +kernel
theorem dX9_differences_60 : decode cX9_differences 60 = .ok (.iload 4, 2) := by decide +kernel
theorem dX9_differences_62 : decode cX9_differences 62 = .ok (.invokevirtual 130, 3) := by decide +kernel
theorem dX9_differences_65 : decode cX9_differences 65 = .ok (.aload_n 0, 1) := by decide +kernel
theorem dX9_differences_66 : decode cX9_differences 66 = .ok (.lload 7, 2) := by decide +kernel
theorem dX9_differences_68 : decode cX9_differences 68 = .ok (.lneg, 1) := by decide +kernel
theorem dX9_differences_69 : decode cX9_differences 69 = .ok (.lload 9, 2) := by decide +kernel
theorem dX9_differences_71 : decode cX9_differences 71 = .ok (.invokevirtual 95, 3) := by decide +kernel
theorem dX9_differences_74 : decode cX9_differences 74 = .ok (.aload_n 0, 1) := by decide +kernel
theorem dX9_differences_75 : decode cX9_differences 75 = .ok (.getfield 30, 3) := by decide +kernel
theorem dX9_differences_78 : decode cX9_differences 78 = .ok (.iload 5, 2) := by decide +kernel
theorem dX9_differences_80 : decode cX9_differences 80 = .ok (.aload_n 0, 1) := by decide +kernel
theorem dX9_differences_81 : decode cX9_differences 81 = .ok (.getfield 75, 3) := by decide +kernel
theorem dX9_differences_84 : decode cX9_differences 84 = .ok (.lastore, 1) := by decide +kernel
theorem dX9_differences_85 : decode cX9_differences 85 = .ok (.aload_n 0, 1) := by decide +kernel
theorem dX9_differences_86 : decode cX9_differences 86 = .ok (.getfield 34, 3) := by decide +kernel
theorem dX9_differences_89 : decode cX9_differences 89 = .ok (.iload 5, 2) := by decide +kernel
theorem dX9_differences_91 : decode cX9_differences 91 = .ok (.aload_n 0, 1) := by decide +kernel
theorem dX9_differences_92 : decode cX9_differences 92 = .ok (.getfield 27, 3) := by decide +kernel
theorem dX9_differences_95 : decode cX9_differences 95 = .ok (.lastore, 1) := by decide +kernel
theorem dX9_differences_96 : decode cX9_differences 96 = .ok (.iinc 5 1, 3) := by decide +kernel
theorem dX9_differences_99 : decode cX9_differences 99 = .ok (.iinc 6 1, 3) := by decide +kernel
theorem dX9_differences_102 : decode cX9_differences 102 = .ok (.goto (-96), 3) := by decide +kernel
theorem dX9_differences_105 : decode cX9_differences 105 = .ok (.iload 5, 2) := by decide +kernel
theorem dX9_differences_107 : decode cX9_differences 107 = .ok (.ireturn, 1) := by decide +kernel
set_option maxRecDepth 20000 in
theorem ggX9_refused_X9_isRanker : GoodIn wsX9_refused wsX9_isRanker := goodIn_r _ [4] (by decide +kernel) (by decide +kernel)
set_option maxRecDepth 20000 in
theorem gX9_refused_X9_isRanker : GoodIn wsX9_refused (va_wsS RX9 43 yX9_isRanker wsX9_isRanker) := goodIn_app (goodIn_of _ (by decide +kernel)) ggX9_refused_X9_isRanker
set_option maxRecDepth 20000 in
theorem ggX9_refused_X9_isMean : GoodIn wsX9_refused wsX9_isMean := goodIn_r _ [8, 9, 10, 3, 11] (by decide +kernel) (by decide +kernel)
set_option maxRecDepth 20000 in
theorem gX9_refused_X9_isMean : GoodIn wsX9_refused (wsV RX9 147 RX9 yX9_isMean wsX9_isMean) := goodIn_app (goodIn_of _ (by decide +kernel)) ggX9_refused_X9_isMean
theorem dX9_refused_0 : decode cX9_refused 0 = .ok (.iload_n 1, 1) := by decide +kernel
theorem dX9_refused_1 : decode cX9_refused 1 = .ok (.invokestatic 43, 3) := by decide +kernel
theorem dX9_refused_4 : decode cX9_refused 4 = .ok (.ifCond .eq 10, 3) := by decide +kernel
theorem dX9_refused_7 : decode cX9_refused 7 = .ok (.iload_n 2, 1) := by decide +kernel
theorem dX9_refused_8 : decode cX9_refused 8 = .ok (.invokestatic 43, 3) := by decide +kernel
theorem dX9_refused_11 : decode cX9_refused 11 = .ok (.ifCond .ne 5, 3) := by decide +kernel
theorem dX9_refused_14 : decode cX9_refused 14 = .ok (.iconst (-1), 1) := by decide +kernel
theorem dX9_refused_15 : decode cX9_refused 15 = .ok (.ireturn, 1) := by decide +kernel
theorem dX9_refused_16 : decode cX9_refused 16 = .ok (.aload_n 0, 1) := by decide +kernel
theorem dX9_refused_17 : decode cX9_refused 17 = .ok (.iload_n 3, 1) := by decide +kernel
theorem dX9_refused_18 : decode cX9_refused 18 = .ok (.iload 4, 2) := by decide +kernel
theorem dX9_refused_20 : decode cX9_refused 20 = .ok (.invokevirtual 147, 3) := by decide +kernel
theorem dX9_refused_23 : decode cX9_refused 23 = .ok (.ifCond .eq 7, 3) := by decide +kernel
theorem dX9_refused_26 : decode cX9_refused 26 = .ok (.iconst 0, 1) := by decide +kernel
theorem dX9_refused_27 : decode cX9_refused 27 = .ok (.goto 5, 3) := by decide +kernel
theorem dX9_refused_30 : decode cX9_refused 30 = .ok (.bipush (-2), 2) := by decide +kernel
theorem dX9_refused_32 : decode cX9_refused 32 = .ok (.ireturn, 1) := by decide +kernel
set_option maxRecDepth 20000 in
theorem ggX9_odds_X9_refused : GoodIn wsX9_odds wsX9_refused := goodIn_r _ [7, 8, 9, 6, 10, 11, 12, 13, 14, 15, 16, 17] (by decide +kernel) (by decide +kernel)
set_option maxRecDepth 20000 in
theorem gX9_odds_X9_refused : GoodIn wsX9_odds (wsV RX9 153 RX9 yX9_refused wsX9_refused) := goodIn_app (goodIn_of _ (by decide +kernel)) ggX9_odds_X9_refused
set_option maxRecDepth 20000 in
theorem ggX9_odds_X9_differences : GoodIn wsX9_odds wsX9_differences := goodIn_r _ [21, 22, 23, 2, 1, 24, 25, 26, 6, 27, 28, 29, 30, 31, 32, 33, 34, 35, 36, 37, 38, 39, 40, 41, 42, 43, 44, 45, 46, 47, 48, 49, 50, 51, 52, 53, 54, 55, 56, 57, 58, 59, 60, 61, 62, 63, 64, 65, 66, 67, 68, 69, 70, 71, 72, 73, 74, 75, 76, 77, 78, 79, 80, 81, 82, 83, 84, 85, 86, 87, 88, 89, 90, 91, 92, 93, 94, 95, 96, 97, 98, 99, 100, 101, 102, 103, 104, 105, 106, 107, 108, 109, 116, 117, 118, 119, 120, 121, 122, 123, 124, 125, 126, 127, 128, 129] (by decide +kernel) (by decide +kernel)
set_option maxRecDepth 20000 in
theorem gX9_odds_X9_differences : GoodIn wsX9_odds (wsV RX9 157 RX9 yX9_differences wsX9_differences) := goodIn_app (goodIn_of _ (by decide +kernel)) ggX9_odds_X9_differences
set_option maxRecDepth 20000 in
theorem ggX9_odds_X9_common : GoodIn wsX9_odds wsX9_common := goodIn_r _ [74] (by decide +kernel) (by decide +kernel)
set_option maxRecDepth 20000 in
theorem gX9_odds_X9_common : GoodIn wsX9_odds (va_wsS RX9 78 yX9_common wsX9_common) := goodIn_app (goodIn_of _ (by decide +kernel)) ggX9_odds_X9_common
set_option maxRecDepth 20000 in
theorem ggX9_odds_X9_make : GoodIn wsX9_odds wsX9_make := goodIn_r _ [71, 22, 23, 72, 73, 6, 74, 116, 117, 118, 119, 120, 121, 122, 123, 124, 125, 126, 127, 128, 129] (by decide +kernel) (by decide +kernel)
set_option maxRecDepth 20000 in
theorem gX9_odds_X9_make : GoodIn wsX9_odds (wsV RX9 82 RX9 yX9_make wsX9_make) := goodIn_app (goodIn_of _ (by decide +kernel)) ggX9_odds_X9_make
set_option maxRecDepth 20000 in
theorem ggX9_odds_X9_show : GoodIn wsX9_odds wsX9_show := goodIn_r _ [113, 22, 114, 23, 115, 116, 117, 118, 119, 120, 121, 122, 123, 124, 125, 126, 127, 128, 129] (by decide +kernel) (by decide +kernel)
set_option maxRecDepth 20000 in
theorem gX9_odds_X9_show : GoodIn wsX9_odds (wsV RX9 134 RX9 yX9_show wsX9_show) := goodIn_app (goodIn_of _ (by decide +kernel)) ggX9_odds_X9_show
theorem dX9_odds_0 : decode cX9_odds 0 = .ok (.aload_n 0, 1) := by decide +kernel
theorem dX9_odds_1 : decode cX9_odds 1 = .ok (.iload_n 1, 1) := by decide +kernel
theorem dX9_odds_2 : decode cX9_odds 2 = .ok (.iload_n 2, 1) := by decide +kernel
theorem dX9_odds_3 : decode cX9_odds 3 = .ok (.iload_n 3, 1) := by decide +kernel
theorem dX9_odds_4 : decode cX9_odds 4 = .ok (.iload 4, 2) := by decide +kernel
theorem dX9_odds_6 : decode cX9_odds 6 = .ok (.invokevirtual 153, 3) := by decide +kernel
theorem dX9_odds_9 : decode cX9_odds 9 = .ok (.istore 5, 2) := by decide +kernel
theorem dX9_odds_11 : decode cX9_odds 11 = .ok (.iload 5, 2) := by decide +kernel
theorem dX9_odds_13 : decode cX9_odds 13 = .ok (.ifCond .ge 6, 3) := by decide +kernel
theorem dX9_odds_16 : decode cX9_odds 16 = .ok (.iload 5, 2) := by decide +kernel
theorem dX9_odds_18 : decode cX9_odds 18 = .ok (.ireturn, 1) := by decide +kernel
theorem dX9_odds_19 : decode cX9_odds 19 = .ok (.aload_n 0, 1) := by decide +kernel
theorem dX9_odds_20 : decode cX9_odds 20 = .ok (.iload_n 1, 1) := by decide +kernel
theorem dX9_odds_21 : decode cX9_odds 21 = .ok (.iload_n 2, 1) := by decide +kernel
theorem dX9_odds_22 : decode cX9_odds 22 = .ok (.iload_n 3, 1) := by decide +kernel
theorem dX9_odds_23 : decode cX9_odds 23 = .ok (.iload 4, 2) := by decide +kernel
theorem dX9_odds_25 : decode cX9_odds 25 = .ok (.invokevirtual 157, 3) := by decide +kernel
theorem dX9_odds_28 : decode cX9_odds 28 = .ok (.istore 6, 2) := by decide +kernel
theorem dX9_odds_30 : decode cX9_odds 30 = .ok (.iload_n 1, 1) := by decide +kernel
theorem dX9_odds_31 : decode cX9_odds 31 = .ok (.iload_n 2, 1) := by decide +kernel
theorem dX9_odds_32 : decode cX9_odds 32 = .ok (.if_icmp .eq 8, 3) := by decide +kernel
theorem dX9_odds_35 : decode cX9_odds 35 = .ok (.iload 6, 2) := by decide +kernel
theorem dX9_odds_37 : decode cX9_odds 37 = .ok (.ifCond .ne 6, 3) := by decide +kernel
theorem dX9_odds_40 : decode cX9_odds 40 = .ok (.bipush (-3), 2) := by decide +kernel
theorem dX9_odds_42 : decode cX9_odds 42 = .ok (.ireturn, 1) := by decide +kernel
theorem dX9_odds_43 : decode cX9_odds 43 = .ok (.lconst 1, 1) := by decide +kernel
theorem dX9_odds_44 : decode cX9_odds 44 = .ok (.lstore 7, 2) := by decide +kernel
theorem dX9_odds_46 : decode cX9_odds 46 = .ok (.iconst 0, 1) := by decide +kernel
theorem dX9_odds_47 : decode cX9_odds 47 = .ok (.istore 9, 2) := by decide +kernel
theorem dX9_odds_49 : decode cX9_odds 49 = .ok (.iload 9, 2) := by decide +kernel
theorem dX9_odds_51 : decode cX9_odds 51 = .ok (.iload 6, 2) := by decide +kernel
theorem dX9_odds_53 : decode cX9_odds 53 = .ok (.if_icmp .ge 34, 3) := by decide +kernel
theorem dX9_odds_56 : decode cX9_odds 56 = .ok (.lload 7, 2) := by decide +kernel
theorem dX9_odds_58 : decode cX9_odds 58 = .ok (.lload 7, 2) := by decide +kernel
theorem dX9_odds_60 : decode cX9_odds 60 = .ok (.aload_n 0, 1) := by decide +kernel
theorem dX9_odds_61 : decode cX9_odds 61 = .ok (.getfield 34, 3) := by decide +kernel
theorem dX9_odds_64 : decode cX9_odds 64 = .ok (.iload 9, 2) := by decide +kernel
theorem dX9_odds_66 : decode cX9_odds 66 = .ok (.laload, 1) := by decide +kernel
theorem dX9_odds_67 : decode cX9_odds 67 = .ok (.invokestatic 78, 3) := by decide +kernel
theorem dX9_odds_70 : decode cX9_odds 70 = .ok (.ldiv, 1) := by decide +kernel
theorem dX9_odds_71 : decode cX9_odds 71 = .ok (.aload_n 0, 1) := by decide +kernel
theorem dX9_odds_72 : decode cX9_odds 72 = .ok (.getfield 34, 3) := by decide +kernel
theorem dX9_odds_75 : decode cX9_odds 75 = .ok (.iload 9, 2) := by decide +kernel
theorem dX9_odds_77 : decode cX9_odds 77 = .ok (.laload, 1) := by decide +kernel
theorem dX9_odds_78 : decode cX9_odds 78 = .ok (.lmul, 1) := by decide +kernel
theorem dX9_odds_79 : decode cX9_odds 79 = .ok (.lstore 7, 2) := by decide +kernel
theorem dX9_odds_81 : decode cX9_odds 81 = .ok (.iinc 9 1, 3) := by decide +kernel
theorem dX9_odds_84 : decode cX9_odds 84 = .ok (.goto (-35), 3) := by decide +kernel
theorem dX9_odds_87 : decode cX9_odds 87 = .ok (.lconst 0, 1) := by decide +kernel
theorem dX9_odds_88 : decode cX9_odds 88 = .ok (.lstore 9, 2) := by decide +kernel
theorem dX9_odds_90 : decode cX9_odds 90 = .ok (.iconst 0, 1) := by decide +kernel
theorem dX9_odds_91 : decode cX9_odds 91 = .ok (.istore 11, 2) := by decide +kernel
theorem dX9_odds_93 : decode cX9_odds 93 = .ok (.iload 11, 2) := by decide +kernel
theorem dX9_odds_95 : decode cX9_odds 95 = .ok (.iload 6, 2) := by decide +kernel
theorem dX9_odds_97 : decode cX9_odds 97 = .ok (.if_icmp .ge 32, 3) := by decide +kernel
theorem dX9_odds_100 : decode cX9_odds 100 = .ok (.lload 9, 2) := by decide +kernel
theorem dX9_odds_102 : decode cX9_odds 102 = .ok (.aload_n 0, 1) := by decide +kernel
theorem dX9_odds_103 : decode cX9_odds 103 = .ok (.getfield 30, 3) := by decide +kernel
theorem dX9_odds_106 : decode cX9_odds 106 = .ok (.iload 11, 2) := by decide +kernel
theorem dX9_odds_108 : decode cX9_odds 108 = .ok (.laload, 1) := by decide +kernel
theorem dX9_odds_109 : decode cX9_odds 109 = .ok (.lload 7, 2) := by decide +kernel
theorem dX9_odds_111 : decode cX9_odds 111 = .ok (.aload_n 0, 1) := by decide +kernel
theorem dX9_odds_112 : decode cX9_odds 112 = .ok (.getfield 34, 3) := by decide +kernel
theorem dX9_odds_115 : decode cX9_odds 115 = .ok (.iload 11, 2) := by decide +kernel
theorem dX9_odds_117 : decode cX9_odds 117 = .ok (.laload, 1) := by decide +kernel
theorem dX9_odds_118 : decode cX9_odds 118 = .ok (.ldiv, 1) := by decide +kernel
theorem dX9_odds_119 : decode cX9_odds 119 = .ok (.lmul, 1) := by decide +kernel
theorem dX9_odds_120 : decode cX9_odds 120 = .ok (.ladd, 1) := by decide +kernel
theorem dX9_odds_121 : decode cX9_odds 121 = .ok (.lstore 9, 2) := by decide +kernel
theorem dX9_odds_123 : decode cX9_odds 123 = .ok (.iinc 11 1, 3) := by decide +kernel
theorem dX9_odds_126 : decode cX9_odds 126 = .ok (.goto (-33), 3) := by decide +kernel
theorem dX9_odds_129 : decode cX9_odds 129 = .ok (.lload 9, 2) := by decide +kernel
theorem dX9_odds_131 : decode cX9_odds 131 = .ok (.lconst 0, 1) := by decide +kernel
theorem dX9_odds_132 : decode cX9_odds 132 = .ok (.lcmp, 1) := by decide +kernel
theorem dX9_odds_133 : decode cX9_odds 133 = .ok (.ifCond .ge 9, 3) := by decide +kernel
theorem dX9_odds_136 : decode cX9_odds 136 = .ok (.lload 9, 2) := by decide +kernel
theorem dX9_odds_138 : decode cX9_odds 138 = .ok (.lneg, 1) := by decide +kernel
theorem dX9_odds_139 : decode cX9_odds 139 = .ok (.goto 5, 3) := by decide +kernel
theorem dX9_odds_142 : decode cX9_odds 142 = .ok (.lload 9, 2) := by decide +kernel
theorem dX9_odds_144 : decode cX9_odds 144 = .ok (.lstore 9, 2) := by decide +kernel
theorem dX9_odds_146 : decode cX9_odds 146 = .ok (.lconst 0, 1) := by decide +kernel
theorem dX9_odds_147 : decode cX9_odds 147 = .ok (.lstore 11, 2) := by decide +kernel
theorem dX9_odds_149 : decode cX9_odds 149 = .ok (.iconst 0, 1) := by decide +kernel
theorem dX9_odds_150 : decode cX9_odds 150 = .ok (.istore 13, 2) := by decide +kernel
theorem dX9_odds_152 : decode cX9_odds 152 = .ok (.iload 13, 2) := by decide +kernel
theorem dX9_odds_154 : decode cX9_odds 154 = .ok (.iconst 1, 1) := by decide +kernel
theorem dX9_odds_155 : decode cX9_odds 155 = .ok (.iload 6, 2) := by decide +kernel
theorem dX9_odds_157 : decode cX9_odds 157 = .ok (.ishl, 1) := by decide +kernel
theorem dX9_odds_158 : decode cX9_odds 158 = .ok (.if_icmp .ge 103, 3) := by decide +kernel
theorem dX9_odds_161 : decode cX9_odds 161 = .ok (.lconst 0, 1) := by decide +kernel
theorem dX9_odds_162 : decode cX9_odds 162 = .ok (.lstore 14, 2) := by decide +kernel
theorem dX9_odds_164 : decode cX9_odds 164 = .ok (.iconst 0, 1) := by decide +kernel
theorem dX9_odds_165 : decode cX9_odds 165 = .ok (.istore 16, 2) := by decide +kernel
theorem dX9_odds_167 : decode cX9_odds 167 = .ok (.iload 16, 2) := by decide +kernel
theorem dX9_odds_169 : decode cX9_odds 169 = .ok (.iload 6, 2) := by decide +kernel
theorem dX9_odds_171 : decode cX9_odds 171 = .ok (.if_icmp .ge 53, 3) := by decide +kernel
theorem dX9_odds_174 : decode cX9_odds 174 = .ok (.aload_n 0, 1) := by decide +kernel
theorem dX9_odds_175 : decode cX9_odds 175 = .ok (.getfield 30, 3) := by decide +kernel
theorem dX9_odds_178 : decode cX9_odds 178 = .ok (.iload 16, 2) := by decide +kernel
theorem dX9_odds_180 : decode cX9_odds 180 = .ok (.laload, 1) := by decide +kernel
theorem dX9_odds_181 : decode cX9_odds 181 = .ok (.lload 7, 2) := by decide +kernel
theorem dX9_odds_183 : decode cX9_odds 183 = .ok (.aload_n 0, 1) := by decide +kernel
theorem dX9_odds_184 : decode cX9_odds 184 = .ok (.getfield 34, 3) := by decide +kernel
theorem dX9_odds_187 : decode cX9_odds 187 = .ok (.iload 16, 2) := by decide +kernel
theorem dX9_odds_189 : decode cX9_odds 189 = .ok (.laload, 1) := by decide +kernel
theorem dX9_odds_190 : decode cX9_odds 190 = .ok (.ldiv, 1) := by decide +kernel
theorem dX9_odds_191 : decode cX9_odds 191 = .ok (.lmul, 1) := by decide +kernel
theorem dX9_odds_192 : decode cX9_odds 192 = .ok (.lstore 17, 2) := by decide +kernel
theorem dX9_odds_194 : decode cX9_odds 194 = .ok (.lload 14, 2) := by decide +kernel
theorem dX9_odds_196 : decode cX9_odds 196 = .ok (.iload 13, 2) := by decide +kernel
theorem dX9_odds_198 : decode cX9_odds 198 = .ok (.iload 16, 2) := by decide +kernel
theorem dX9_odds_200 : decode cX9_odds 200 = .ok (.ishr, 1) := by decide +kernel
theorem dX9_odds_201 : decode cX9_odds 201 = .ok (.iconst 1, 1) := by decide +kernel
theorem dX9_odds_202 : decode cX9_odds 202 = .ok (.iand, 1) := by decide +kernel
theorem dX9_odds_203 : decode cX9_odds 203 = .ok (.iconst 1, 1) := by decide +kernel
theorem dX9_odds_204 : decode cX9_odds 204 = .ok (.if_icmp .ne 9, 3) := by decide +kernel
theorem dX9_odds_207 : decode cX9_odds 207 = .ok (.lload 17, 2) := by decide +kernel
theorem dX9_odds_209 : decode cX9_odds 209 = .ok (.lneg, 1) := by decide +kernel
theorem dX9_odds_210 : decode cX9_odds 210 = .ok (.goto 5, 3) := by decide +kernel
theorem dX9_odds_213 : decode cX9_odds 213 = .ok (.lload 17, 2) := by decide +kernel
theorem dX9_odds_215 : decode cX9_odds 215 = .ok (.ladd, 1) := by decide +kernel
theorem dX9_odds_216 : decode cX9_odds 216 = .ok (.lstore 14, 2) := by decide +kernel
theorem dX9_odds_218 : decode cX9_odds 218 = .ok (.iinc 16 1, 3) := by decide +kernel
theorem dX9_odds_221 : decode cX9_odds 221 = .ok (.goto (-54), 3) := by decide +kernel
theorem dX9_odds_224 : decode cX9_odds 224 = .ok (.lload 11, 2) := by decide +kernel
theorem dX9_odds_226 : decode cX9_odds 226 = .ok (.lload 14, 2) := by decide +kernel
theorem dX9_odds_228 : decode cX9_odds 228 = .ok (.lconst 0, 1) := by decide +kernel
theorem dX9_odds_229 : decode cX9_odds 229 = .ok (.lcmp, 1) := by decide +kernel
theorem dX9_odds_230 : decode cX9_odds 230 = .ok (.ifCond .ge 9, 3) := by decide +kernel
theorem dX9_odds_233 : decode cX9_odds 233 = .ok (.lload 14, 2) := by decide +kernel
theorem dX9_odds_235 : decode cX9_odds 235 = .ok (.lneg, 1) := by decide +kernel
theorem dX9_odds_236 : decode cX9_odds 236 = .ok (.goto 5, 3) := by decide +kernel
theorem dX9_odds_239 : decode cX9_odds 239 = .ok (.lload 14, 2) := by decide +kernel
theorem dX9_odds_241 : decode cX9_odds 241 = .ok (.lload 9, 2) := by decide +kernel
theorem dX9_odds_243 : decode cX9_odds 243 = .ok (.lcmp, 1) := by decide +kernel
theorem dX9_odds_244 : decode cX9_odds 244 = .ok (.ifCond .lt 7, 3) := by decide +kernel
theorem dX9_odds_247 : decode cX9_odds 247 = .ok (.lconst 1, 1) := by decide +kernel
theorem dX9_odds_248 : decode cX9_odds 248 = .ok (.goto 4, 3) := by decide +kernel
theorem dX9_odds_251 : decode cX9_odds 251 = .ok (.lconst 0, 1) := by decide +kernel
theorem dX9_odds_252 : decode cX9_odds 252 = .ok (.ladd, 1) := by decide +kernel
theorem dX9_odds_253 : decode cX9_odds 253 = .ok (.lstore 11, 2) := by decide +kernel
theorem dX9_odds_255 : decode cX9_odds 255 = .ok (.iinc 13 1, 3) := by decide +kernel
theorem dX9_odds_258 : decode cX9_odds 258 = .ok (.goto (-106), 3) := by decide +kernel
theorem dX9_odds_261 : decode cX9_odds 261 = .ok (.aload_n 0, 1) := by decide +kernel
theorem dX9_odds_262 : decode cX9_odds 262 = .ok (.lload 11, 2) := by decide +kernel
theorem dX9_odds_264 : decode cX9_odds 264 = .ok (.lconst 1, 1) := by decide +kernel
theorem dX9_odds_265 : decode cX9_odds 265 = .ok (.iload 6, 2) := by decide +kernel
theorem dX9_odds_267 : decode cX9_odds 267 = .ok (.lshl, 1) := by decide +kernel
theorem dX9_odds_268 : decode cX9_odds 268 = .ok (.invokevirtual 82, 3) := by decide +kernel
theorem dX9_odds_271 : decode cX9_odds 271 = .ok (.aload_n 0, 1) := by decide +kernel
theorem dX9_odds_272 : decode cX9_odds 272 = .ok (.invokevirtual 134, 3) := by decide +kernel
theorem dX9_odds_275 : decode cX9_odds 275 = .ok (.iload 6, 2) := by decide +kernel
theorem dX9_odds_277 : decode cX9_odds 277 = .ok (.ireturn, 1) := by decide +kernel
set_option maxRecDepth 20000 in
theorem ggX9_wins_X9_refused : GoodIn wsX9_wins wsX9_refused := goodIn_r _ [6, 7, 8, 5, 9, 10, 11, 12, 13, 14, 15, 16] (by decide +kernel) (by decide +kernel)
set_option maxRecDepth 20000 in
theorem gX9_wins_X9_refused : GoodIn wsX9_wins (wsV RX9 153 RX9 yX9_refused wsX9_refused) := goodIn_app (goodIn_of _ (by decide +kernel)) ggX9_wins_X9_refused
set_option maxRecDepth 20000 in
theorem ggX9_wins_X9_differences : GoodIn wsX9_wins wsX9_differences := goodIn_r _ [20, 21, 22, 1, 23, 24, 25, 26, 5, 27, 28, 29, 30, 31, 32, 33, 34, 35, 36, 37, 38, 39, 40, 41, 42, 43, 44, 45, 46, 47, 48, 49, 50, 51, 52, 53, 54, 55, 56, 57, 58, 59, 60, 61, 62, 63, 64, 65, 66, 67, 68, 69, 70, 71, 72, 73, 74, 75, 76, 77, 78, 79, 80, 81, 82, 83, 84, 85, 86, 87, 88, 89, 90, 91, 92, 93, 94, 95, 96, 97, 98, 99, 100, 101, 102, 103, 104, 105, 106, 107, 108, 109, 110, 111, 112, 113, 114, 115, 116, 117, 118, 119, 120, 121, 122, 123] (by decide +kernel) (by decide +kernel)
set_option maxRecDepth 20000 in
theorem gX9_wins_X9_differences : GoodIn wsX9_wins (wsV RX9 157 RX9 yX9_differences wsX9_differences) := goodIn_app (goodIn_of _ (by decide +kernel)) ggX9_wins_X9_differences
theorem dX9_wins_0 : decode cX9_wins 0 = .ok (.aload_n 0, 1) := by decide +kernel
theorem dX9_wins_1 : decode cX9_wins 1 = .ok (.iload_n 1, 1) := by decide +kernel
theorem dX9_wins_2 : decode cX9_wins 2 = .ok (.iload_n 2, 1) := by decide +kernel
theorem dX9_wins_3 : decode cX9_wins 3 = .ok (.iload_n 3, 1) := by decide +kernel
theorem dX9_wins_4 : decode cX9_wins 4 = .ok (.iload 4, 2) := by decide +kernel
theorem dX9_wins_6 : decode cX9_wins 6 = .ok (.invokevirtual 153, 3) := by decide +kernel
theorem dX9_wins_9 : decode cX9_wins 9 = .ok (.istore 6, 2) := by decide +kernel
theorem dX9_wins_11 : decode cX9_wins 11 = .ok (.iload 6, 2) := by decide +kernel
theorem dX9_wins_13 : decode cX9_wins 13 = .ok (.ifCond .ge 6, 3) := by decide +kernel
theorem dX9_wins_16 : decode cX9_wins 16 = .ok (.iload 6, 2) := by decide +kernel
theorem dX9_wins_18 : decode cX9_wins 18 = .ok (.ireturn, 1) := by decide +kernel
theorem dX9_wins_19 : decode cX9_wins 19 = .ok (.iload 5, 2) := by decide +kernel
theorem dX9_wins_21 : decode cX9_wins 21 = .ok (.ifCond .lt 9, 3) := by decide +kernel
theorem dX9_wins_24 : decode cX9_wins 24 = .ok (.iload 5, 2) := by decide +kernel
theorem dX9_wins_26 : decode cX9_wins 26 = .ok (.iconst 2, 1) := by decide +kernel
theorem dX9_wins_27 : decode cX9_wins 27 = .ok (.if_icmp .le 6, 3) := by decide +kernel
theorem dX9_wins_30 : decode cX9_wins 30 = .ok (.bipush (-2), 2) := by decide +kernel
theorem dX9_wins_32 : decode cX9_wins 32 = .ok (.ireturn, 1) := by decide +kernel
theorem dX9_wins_33 : decode cX9_wins 33 = .ok (.aload_n 0, 1) := by decide +kernel
theorem dX9_wins_34 : decode cX9_wins 34 = .ok (.iload_n 1, 1) := by decide +kernel
theorem dX9_wins_35 : decode cX9_wins 35 = .ok (.iload_n 2, 1) := by decide +kernel
theorem dX9_wins_36 : decode cX9_wins 36 = .ok (.iload_n 3, 1) := by decide +kernel
theorem dX9_wins_37 : decode cX9_wins 37 = .ok (.iload 4, 2) := by decide +kernel
theorem dX9_wins_39 : decode cX9_wins 39 = .ok (.invokevirtual 157, 3) := by decide +kernel
theorem dX9_wins_42 : decode cX9_wins 42 = .ok (.istore 7, 2) := by decide +kernel
theorem dX9_wins_44 : decode cX9_wins 44 = .ok (.iload_n 1, 1) := by decide +kernel
theorem dX9_wins_45 : decode cX9_wins 45 = .ok (.iload_n 2, 1) := by decide +kernel
theorem dX9_wins_46 : decode cX9_wins 46 = .ok (.if_icmp .eq 8, 3) := by decide +kernel
theorem dX9_wins_49 : decode cX9_wins 49 = .ok (.iload 7, 2) := by decide +kernel
theorem dX9_wins_51 : decode cX9_wins 51 = .ok (.ifCond .ne 6, 3) := by decide +kernel
theorem dX9_wins_54 : decode cX9_wins 54 = .ok (.bipush (-3), 2) := by decide +kernel
theorem dX9_wins_56 : decode cX9_wins 56 = .ok (.ireturn, 1) := by decide +kernel
theorem dX9_wins_57 : decode cX9_wins 57 = .ok (.iconst 0, 1) := by decide +kernel
theorem dX9_wins_58 : decode cX9_wins 58 = .ok (.istore 8, 2) := by decide +kernel
theorem dX9_wins_60 : decode cX9_wins 60 = .ok (.iconst 0, 1) := by decide +kernel
theorem dX9_wins_61 : decode cX9_wins 61 = .ok (.istore 9, 2) := by decide +kernel
theorem dX9_wins_63 : decode cX9_wins 63 = .ok (.iload 9, 2) := by decide +kernel
theorem dX9_wins_65 : decode cX9_wins 65 = .ok (.iload 7, 2) := by decide +kernel
theorem dX9_wins_67 : decode cX9_wins 67 = .ok (.if_icmp .ge 72, 3) := by decide +kernel
theorem dX9_wins_70 : decode cX9_wins 70 = .ok (.iload 8, 2) := by decide +kernel
theorem dX9_wins_72 : decode cX9_wins 72 = .ok (.iload 5, 2) := by decide +kernel
theorem dX9_wins_74 : decode cX9_wins 74 = .ok (.ifCond .ne 15, 3) := by decide +kernel
theorem dX9_wins_77 : decode cX9_wins 77 = .ok (.aload_n 0, 1) := by decide +kernel
theorem dX9_wins_78 : decode cX9_wins 78 = .ok (.getfield 30, 3) := by decide +kernel
theorem dX9_wins_81 : decode cX9_wins 81 = .ok (.iload 9, 2) := by decide +kernel
theorem dX9_wins_83 : decode cX9_wins 83 = .ok (.laload, 1) := by decide +kernel
theorem dX9_wins_84 : decode cX9_wins 84 = .ok (.lconst 0, 1) := by decide +kernel
theorem dX9_wins_85 : decode cX9_wins 85 = .ok (.lcmp, 1) := by decide +kernel
theorem dX9_wins_86 : decode cX9_wins 86 = .ok (.ifCond .gt 39, 3) := by decide +kernel
theorem dX9_wins_89 : decode cX9_wins 89 = .ok (.iload 5, 2) := by decide +kernel
theorem dX9_wins_91 : decode cX9_wins 91 = .ok (.iconst 1, 1) := by decide +kernel
theorem dX9_wins_92 : decode cX9_wins 92 = .ok (.if_icmp .ne 15, 3) := by decide +kernel
theorem dX9_wins_95 : decode cX9_wins 95 = .ok (.aload_n 0, 1) := by decide +kernel
theorem dX9_wins_96 : decode cX9_wins 96 = .ok (.getfield 30, 3) := by decide +kernel
theorem dX9_wins_99 : decode cX9_wins 99 = .ok (.iload 9, 2) := by decide +kernel
theorem dX9_wins_101 : decode cX9_wins 101 = .ok (.laload, 1) := by decide +kernel
theorem dX9_wins_102 : decode cX9_wins 102 = .ok (.lconst 0, 1) := by decide +kernel
theorem dX9_wins_103 : decode cX9_wins 103 = .ok (.lcmp, 1) := by decide +kernel
theorem dX9_wins_104 : decode cX9_wins 104 = .ok (.ifCond .lt 21, 3) := by decide +kernel
theorem dX9_wins_107 : decode cX9_wins 107 = .ok (.iload 5, 2) := by decide +kernel
theorem dX9_wins_109 : decode cX9_wins 109 = .ok (.iconst 2, 1) := by decide +kernel
theorem dX9_wins_110 : decode cX9_wins 110 = .ok (.if_icmp .ne 19, 3) := by decide +kernel
theorem dX9_wins_113 : decode cX9_wins 113 = .ok (.aload_n 0, 1) := by decide +kernel
theorem dX9_wins_114 : decode cX9_wins 114 = .ok (.getfield 30, 3) := by decide +kernel
theorem dX9_wins_117 : decode cX9_wins 117 = .ok (.iload 9, 2) := by decide +kernel
theorem dX9_wins_119 : decode cX9_wins 119 = .ok (.laload, 1) := by decide +kernel
theorem dX9_wins_120 : decode cX9_wins 120 = .ok (.lconst 0, 1) := by decide +kernel
theorem dX9_wins_121 : decode cX9_wins 121 = .ok (.lcmp, 1) := by decide +kernel
theorem dX9_wins_122 : decode cX9_wins 122 = .ok (.ifCond .ne 7, 3) := by decide +kernel
theorem dX9_wins_125 : decode cX9_wins 125 = .ok (.iconst 1, 1) := by decide +kernel
theorem dX9_wins_126 : decode cX9_wins 126 = .ok (.goto 4, 3) := by decide +kernel
theorem dX9_wins_129 : decode cX9_wins 129 = .ok (.iconst 0, 1) := by decide +kernel
theorem dX9_wins_130 : decode cX9_wins 130 = .ok (.iadd, 1) := by decide +kernel
theorem dX9_wins_131 : decode cX9_wins 131 = .ok (.istore 8, 2) := by decide +kernel
theorem dX9_wins_133 : decode cX9_wins 133 = .ok (.iinc 9 1, 3) := by decide +kernel
theorem dX9_wins_136 : decode cX9_wins 136 = .ok (.goto (-73), 3) := by decide +kernel
theorem dX9_wins_139 : decode cX9_wins 139 = .ok (.iload 8, 2) := by decide +kernel
theorem dX9_wins_141 : decode cX9_wins 141 = .ok (.ireturn, 1) := by decide +kernel
set_option maxRecDepth 20000 in
theorem ggX9_likeness_X9_isRow : GoodIn wsX9_likeness wsX9_isRow := goodIn_r _ [6, 7, 8, 9, 5, 10, 11, 12, 13, 43, 44, 45, 46, 47, 48, 49, 50, 51, 52, 53, 54, 55, 56] (by decide +kernel) (by decide +kernel)
set_option maxRecDepth 20000 in
theorem gX9_likeness_X9_isRow : GoodIn wsX9_likeness (wsV RX9 64 RX9 yX9_isRow wsX9_isRow) := goodIn_app (goodIn_of _ (by decide +kernel)) ggX9_likeness_X9_isRow
set_option maxRecDepth 20000 in
theorem ggX9_likeness_X9_size : GoodIn wsX9_likeness wsX9_size := goodIn_r _ [17, 18, 43, 44, 45, 46, 47, 48, 49, 50, 51, 52, 53, 54, 55, 56] (by decide +kernel) (by decide +kernel)
set_option maxRecDepth 20000 in
theorem gX9_likeness_X9_size : GoodIn wsX9_likeness (wsV RX9 54 RX9 yX9_size wsX9_size) := goodIn_app (goodIn_of _ (by decide +kernel)) ggX9_likeness_X9_size
set_option maxRecDepth 20000 in
theorem ggX9_likeness_X9_find : GoodIn wsX9_likeness wsX9_find := goodIn_r _ [22, 14, 15, 16, 5, 17, 18, 23, 24, 25, 26, 27, 43, 44, 45, 46, 47, 48, 49, 50, 51, 52, 53, 54, 55, 56] (by decide +kernel) (by decide +kernel)
set_option maxRecDepth 20000 in
theorem gX9_likeness_X9_find : GoodIn wsX9_likeness (wsV RX9 61 RX9 yX9_find wsX9_find) := goodIn_app (goodIn_of _ (by decide +kernel)) ggX9_likeness_X9_find
set_option maxRecDepth 20000 in
theorem ggX9_likeness_X9_make : GoodIn wsX9_likeness wsX9_make := goodIn_r _ [31, 32, 33, 34, 35, 5, 36, 43, 44, 45, 46, 47, 48, 49, 50, 51, 52, 53, 54, 55, 56] (by decide +kernel) (by decide +kernel)
set_option maxRecDepth 20000 in
theorem gX9_likeness_X9_make : GoodIn wsX9_likeness (wsV RX9 82 RX9 yX9_make wsX9_make) := goodIn_app (goodIn_of _ (by decide +kernel)) ggX9_likeness_X9_make
set_option maxRecDepth 20000 in
theorem ggX9_likeness_X9_show : GoodIn wsX9_likeness wsX9_show := goodIn_r _ [40, 32, 41, 33, 42, 43, 44, 45, 46, 47, 48, 49, 50, 51, 52, 53, 54, 55, 56] (by decide +kernel) (by decide +kernel)
set_option maxRecDepth 20000 in
theorem gX9_likeness_X9_show : GoodIn wsX9_likeness (wsV RX9 134 RX9 yX9_show wsX9_show) := goodIn_app (goodIn_of _ (by decide +kernel)) ggX9_likeness_X9_show
theorem dX9_likeness_0 : decode cX9_likeness 0 = .ok (.aload_n 0, 1) := by decide +kernel
theorem dX9_likeness_1 : decode cX9_likeness 1 = .ok (.iload_n 1, 1) := by decide +kernel
theorem dX9_likeness_2 : decode cX9_likeness 2 = .ok (.iload_n 3, 1) := by decide +kernel
theorem dX9_likeness_3 : decode cX9_likeness 3 = .ok (.invokevirtual 64, 3) := by decide +kernel
theorem dX9_likeness_6 : decode cX9_likeness 6 = .ok (.ifCond .eq 12, 3) := by decide +kernel
theorem dX9_likeness_9 : decode cX9_likeness 9 = .ok (.aload_n 0, 1) := by decide +kernel
theorem dX9_likeness_10 : decode cX9_likeness 10 = .ok (.iload_n 2, 1) := by decide +kernel
theorem dX9_likeness_11 : decode cX9_likeness 11 = .ok (.iload_n 3, 1) := by decide +kernel
theorem dX9_likeness_12 : decode cX9_likeness 12 = .ok (.invokevirtual 64, 3) := by decide +kernel
theorem dX9_likeness_15 : decode cX9_likeness 15 = .ok (.ifCond .ne 5, 3) := by decide +kernel
theorem dX9_likeness_18 : decode cX9_likeness 18 = .ok (.iconst (-1), 1) := by decide +kernel
theorem dX9_likeness_19 : decode cX9_likeness 19 = .ok (.ireturn, 1) := by decide +kernel
theorem dX9_likeness_20 : decode cX9_likeness 20 = .ok (.iconst 0, 1) := by decide +kernel
theorem dX9_likeness_21 : decode cX9_likeness 21 = .ok (.istore 4, 2) := by decide +kernel
theorem dX9_likeness_23 : decode cX9_likeness 23 = .ok (.lconst 0, 1) := by decide +kernel
theorem dX9_likeness_24 : decode cX9_likeness 24 = .ok (.lstore 5, 2) := by decide +kernel
theorem dX9_likeness_26 : decode cX9_likeness 26 = .ok (.iconst 0, 1) := by decide +kernel
theorem dX9_likeness_27 : decode cX9_likeness 27 = .ok (.istore 7, 2) := by decide +kernel
theorem dX9_likeness_29 : decode cX9_likeness 29 = .ok (.iload 7, 2) := by decide +kernel
theorem dX9_likeness_31 : decode cX9_likeness 31 = .ok (.bipush 24, 2) := by decide +kernel
theorem dX9_likeness_33 : decode cX9_likeness 33 = .ok (.if_icmp .ge 154, 3) := by decide +kernel
theorem dX9_likeness_36 : decode cX9_likeness 36 = .ok (.iload 7, 2) := by decide +kernel
theorem dX9_likeness_38 : decode cX9_likeness 38 = .ok (.iconst 1, 1) := by decide +kernel
theorem dX9_likeness_39 : decode cX9_likeness 39 = .ok (.iadd, 1) := by decide +kernel
theorem dX9_likeness_40 : decode cX9_likeness 40 = .ok (.istore 8, 2) := by decide +kernel
theorem dX9_likeness_42 : decode cX9_likeness 42 = .ok (.iload 8, 2) := by decide +kernel
theorem dX9_likeness_44 : decode cX9_likeness 44 = .ok (.bipush 24, 2) := by decide +kernel
theorem dX9_likeness_46 : decode cX9_likeness 46 = .ok (.if_icmp .ge 135, 3) := by decide +kernel
theorem dX9_likeness_49 : decode cX9_likeness 49 = .ok (.aload_n 0, 1) := by decide +kernel
theorem dX9_likeness_50 : decode cX9_likeness 50 = .ok (.iload_n 1, 1) := by decide +kernel
theorem dX9_likeness_51 : decode cX9_likeness 51 = .ok (.iload_n 3, 1) := by decide +kernel
theorem dX9_likeness_52 : decode cX9_likeness 52 = .ok (.invokevirtual 54, 3) := by decide +kernel
theorem dX9_likeness_55 : decode cX9_likeness 55 = .ok (.istore 9, 2) := by decide +kernel
theorem dX9_likeness_57 : decode cX9_likeness 57 = .ok (.aload_n 0, 1) := by decide +kernel
theorem dX9_likeness_58 : decode cX9_likeness 58 = .ok (.iload_n 2, 1) := by decide +kernel
theorem dX9_likeness_59 : decode cX9_likeness 59 = .ok (.iload_n 3, 1) := by decide +kernel
theorem dX9_likeness_60 : decode cX9_likeness 60 = .ok (.invokevirtual 54, 3) := by decide +kernel
theorem dX9_likeness_63 : decode cX9_likeness 63 = .ok (.istore 10, 2) := by decide +kernel
theorem dX9_likeness_65 : decode cX9_likeness 65 = .ok (.aload_n 0, 1) := by decide +kernel
theorem dX9_likeness_66 : decode cX9_likeness 66 = .ok (.iload_n 1, 1) := by decide +kernel
theorem dX9_likeness_67 : decode cX9_likeness 67 = .ok (.iload_n 3, 1) := by decide +kernel
theorem dX9_likeness_68 : decode cX9_likeness 68 = .ok (.iload 7, 2) := by decide +kernel
theorem dX9_likeness_70 : decode cX9_likeness 70 = .ok (.invokevirtual 61, 3) := by decide +kernel
theorem dX9_likeness_73 : decode cX9_likeness 73 = .ok (.istore 11, 2) := by decide +kernel
theorem dX9_likeness_75 : decode cX9_likeness 75 = .ok (.aload_n 0, 1) := by decide +kernel
theorem dX9_likeness_76 : decode cX9_likeness 76 = .ok (.iload_n 1, 1) := by decide +kernel
theorem dX9_likeness_77 : decode cX9_likeness 77 = .ok (.iload_n 3, 1) := by decide +kernel
theorem dX9_likeness_78 : decode cX9_likeness 78 = .ok (.iload 8, 2) := by decide +kernel
theorem dX9_likeness_80 : decode cX9_likeness 80 = .ok (.invokevirtual 61, 3) := by decide +kernel
theorem dX9_likeness_83 : decode cX9_likeness 83 = .ok (.istore 12, 2) := by decide +kernel
theorem dX9_likeness_85 : decode cX9_likeness 85 = .ok (.aload_n 0, 1) := by decide +kernel
theorem dX9_likeness_86 : decode cX9_likeness 86 = .ok (.iload_n 2, 1) := by decide +kernel
theorem dX9_likeness_87 : decode cX9_likeness 87 = .ok (.iload_n 3, 1) := by decide +kernel
theorem dX9_likeness_88 : decode cX9_likeness 88 = .ok (.iload 7, 2) := by decide +kernel
theorem dX9_likeness_90 : decode cX9_likeness 90 = .ok (.invokevirtual 61, 3) := by decide +kernel
theorem dX9_likeness_93 : decode cX9_likeness 93 = .ok (.istore 13, 2) := by decide +kernel
theorem dX9_likeness_95 : decode cX9_likeness 95 = .ok (.aload_n 0, 1) := by decide +kernel
theorem dX9_likeness_96 : decode cX9_likeness 96 = .ok (.iload_n 2, 1) := by decide +kernel
theorem dX9_likeness_97 : decode cX9_likeness 97 = .ok (.iload_n 3, 1) := by decide +kernel
theorem dX9_likeness_98 : decode cX9_likeness 98 = .ok (.iload 8, 2) := by decide +kernel
theorem dX9_likeness_100 : decode cX9_likeness 100 = .ok (.invokevirtual 61, 3) := by decide +kernel
theorem dX9_likeness_103 : decode cX9_likeness 103 = .ok (.istore 14, 2) := by decide +kernel
theorem dX9_likeness_105 : decode cX9_likeness 105 = .ok (.iload 11, 2) := by decide +kernel
theorem dX9_likeness_107 : decode cX9_likeness 107 = .ok (.iload 9, 2) := by decide +kernel
theorem dX9_likeness_109 : decode cX9_likeness 109 = .ok (.if_icmp .ge 66, 3) := by decide +kernel
theorem dX9_likeness_112 : decode cX9_likeness 112 = .ok (.iload 12, 2) := by decide +kernel
theorem dX9_likeness_114 : decode cX9_likeness 114 = .ok (.iload 9, 2) := by decide +kernel
theorem dX9_likeness_116 : decode cX9_likeness 116 = .ok (.if_icmp .ge 59, 3) := by decide +kernel
theorem dX9_likeness_119 : decode cX9_likeness 119 = .ok (.iload 13, 2) := by decide +kernel
theorem dX9_likeness_121 : decode cX9_likeness 121 = .ok (.iload 10, 2) := by decide +kernel
theorem dX9_likeness_123 : decode cX9_likeness 123 = .ok (.if_icmp .ge 52, 3) := by decide +kernel
theorem dX9_likeness_126 : decode cX9_likeness 126 = .ok (.iload 14, 2) := by decide +kernel
theorem dX9_likeness_128 : decode cX9_likeness 128 = .ok (.iload 10, 2) := by decide +kernel
theorem dX9_likeness_130 : decode cX9_likeness 130 = .ok (.if_icmp .ge 45, 3) := by decide +kernel
theorem dX9_likeness_133 : decode cX9_likeness 133 = .ok (.iinc 4 1, 3) := by decide +kernel
theorem dX9_likeness_136 : decode cX9_likeness 136 = .ok (.lload 5, 2) := by decide +kernel
theorem dX9_likeness_138 : decode cX9_likeness 138 = .ok (.iload 11, 2) := by decide +kernel
theorem dX9_likeness_140 : decode cX9_likeness 140 = .ok (.iload 12, 2) := by decide +kernel
theorem dX9_likeness_142 : decode cX9_likeness 142 = .ok (.if_icmp .ge 7, 3) := by decide +kernel
theorem dX9_likeness_145 : decode cX9_likeness 145 = .ok (.iconst 1, 1) := by decide +kernel
theorem dX9_likeness_146 : decode cX9_likeness 146 = .ok (.goto 4, 3) := by decide +kernel
theorem dX9_likeness_149 : decode cX9_likeness 149 = .ok (.iconst 0, 1) := by decide +kernel
theorem dX9_likeness_150 : decode cX9_likeness 150 = .ok (.iload 13, 2) := by decide +kernel
theorem dX9_likeness_152 : decode cX9_likeness 152 = .ok (.iload 14, 2) := by decide +kernel
theorem dX9_likeness_154 : decode cX9_likeness 154 = .ok (.if_icmp .ge 7, 3) := by decide +kernel
theorem dX9_likeness_157 : decode cX9_likeness 157 = .ok (.iconst 1, 1) := by decide +kernel
theorem dX9_likeness_158 : decode cX9_likeness 158 = .ok (.goto 4, 3) := by decide +kernel
theorem dX9_likeness_161 : decode cX9_likeness 161 = .ok (.iconst 0, 1) := by decide +kernel
theorem dX9_likeness_162 : decode cX9_likeness 162 = .ok (.if_icmp .ne 7, 3) := by decide +kernel
theorem dX9_likeness_165 : decode cX9_likeness 165 = .ok (.lconst 1, 1) := by decide +kernel
theorem dX9_likeness_166 : decode cX9_likeness 166 = .ok (.goto 6, 3) := by decide +kernel
theorem dX9_likeness_169 : decode cX9_likeness 169 = .ok (.ldc2_w 139, 3) := by decide +kernel
theorem dX9_likeness_172 : decode cX9_likeness 172 = .ok (.ladd, 1) := by decide +kernel
theorem dX9_likeness_173 : decode cX9_likeness 173 = .ok (.lstore 5, 2) := by decide +kernel
theorem dX9_likeness_175 : decode cX9_likeness 175 = .ok (.iinc 8 1, 3) := by decide +kernel
theorem dX9_likeness_178 : decode cX9_likeness 178 = .ok (.goto (-136), 3) := by decide +kernel
theorem dX9_likeness_181 : decode cX9_likeness 181 = .ok (.iinc 7 1, 3) := by decide +kernel
theorem dX9_likeness_184 : decode cX9_likeness 184 = .ok (.goto (-155), 3) := by decide +kernel
theorem dX9_likeness_187 : decode cX9_likeness 187 = .ok (.aload_n 0, 1) := by decide +kernel
theorem dX9_likeness_188 : decode cX9_likeness 188 = .ok (.lload 5, 2) := by decide +kernel
theorem dX9_likeness_190 : decode cX9_likeness 190 = .ok (.iload 4, 2) := by decide +kernel
theorem dX9_likeness_192 : decode cX9_likeness 192 = .ok (.i2l, 1) := by decide +kernel
theorem dX9_likeness_193 : decode cX9_likeness 193 = .ok (.invokevirtual 82, 3) := by decide +kernel
theorem dX9_likeness_196 : decode cX9_likeness 196 = .ok (.aload_n 0, 1) := by decide +kernel
theorem dX9_likeness_197 : decode cX9_likeness 197 = .ok (.invokevirtual 134, 3) := by decide +kernel
theorem dX9_likeness_200 : decode cX9_likeness 200 = .ok (.iload 4, 2) := by decide +kernel
theorem dX9_likeness_202 : decode cX9_likeness 202 = .ok (.ireturn, 1) := by decide +kernel
set_option maxRecDepth 20000 in
theorem ggX9_overlap_X9_isRow : GoodIn wsX9_overlap wsX9_isRow := goodIn_r _ [7, 8, 9, 10, 6, 11, 12, 13, 14, 57, 58, 59, 60, 61, 62, 63, 64, 65, 66, 67, 68, 69, 70] (by decide +kernel) (by decide +kernel)
set_option maxRecDepth 20000 in
theorem gX9_overlap_X9_isRow : GoodIn wsX9_overlap (wsV RX9 64 RX9 yX9_isRow wsX9_isRow) := goodIn_app (goodIn_of _ (by decide +kernel)) ggX9_overlap_X9_isRow
set_option maxRecDepth 20000 in
theorem ggX9_overlap_X9_isDeep : GoodIn wsX9_overlap wsX9_isDeep := goodIn_r _ [17] (by decide +kernel) (by decide +kernel)
set_option maxRecDepth 20000 in
theorem gX9_overlap_X9_isDeep : GoodIn wsX9_overlap (va_wsS RX9 127 yX9_isDeep wsX9_isDeep) := goodIn_app (goodIn_of _ (by decide +kernel)) ggX9_overlap_X9_isDeep
set_option maxRecDepth 20000 in
theorem ggX9_overlap_X9_first : GoodIn wsX9_overlap wsX9_first := goodIn_r _ [21, 22, 23, 24, 6, 25, 26, 57, 58, 59, 60, 61, 62, 63, 64, 65, 66, 67, 68, 69, 70] (by decide +kernel) (by decide +kernel)
set_option maxRecDepth 20000 in
theorem gX9_overlap_X9_first : GoodIn wsX9_overlap (wsV RX9 89 RX9 yX9_first wsX9_first) := goodIn_app (goodIn_of _ (by decide +kernel)) ggX9_overlap_X9_first
set_option maxRecDepth 20000 in
theorem ggX9_overlap_X9_doc : GoodIn wsX9_overlap wsX9_doc := goodIn_r _ [30, 31, 57, 58, 59, 60, 61, 62, 63, 64, 65, 66, 67, 68, 69, 70] (by decide +kernel) (by decide +kernel)
set_option maxRecDepth 20000 in
theorem gX9_overlap_X9_doc : GoodIn wsX9_overlap (wsV RX9 57 RX9 yX9_doc wsX9_doc) := goodIn_app (goodIn_of _ (by decide +kernel)) ggX9_overlap_X9_doc
set_option maxRecDepth 20000 in
theorem ggX9_overlap_X9_find : GoodIn wsX9_overlap wsX9_find := goodIn_r _ [35, 22, 23, 24, 6, 25, 26, 27, 28, 29, 30, 31, 57, 58, 59, 60, 61, 62, 63, 64, 65, 66, 67, 68, 69, 70] (by decide +kernel) (by decide +kernel)
set_option maxRecDepth 20000 in
theorem gX9_overlap_X9_find : GoodIn wsX9_overlap (wsV RX9 61 RX9 yX9_find wsX9_find) := goodIn_app (goodIn_of _ (by decide +kernel)) ggX9_overlap_X9_find
set_option maxRecDepth 20000 in
theorem ggX9_overlap_X9_make : GoodIn wsX9_overlap wsX9_make := goodIn_r _ [39, 1, 2, 40, 41, 6, 42, 57, 58, 59, 60, 61, 62, 63, 64, 65, 66, 67, 68, 69, 70] (by decide +kernel) (by decide +kernel)
set_option maxRecDepth 20000 in
theorem gX9_overlap_X9_make : GoodIn wsX9_overlap (wsV RX9 82 RX9 yX9_make wsX9_make) := goodIn_app (goodIn_of _ (by decide +kernel)) ggX9_overlap_X9_make
set_option maxRecDepth 20000 in
theorem ggX9_overlap_X9_plus : GoodIn wsX9_overlap wsX9_plus := goodIn_r _ [46, 2, 1, 40, 41, 6, 42, 36, 37, 38, 39, 57, 58, 59, 60, 61, 62, 63, 64, 65, 66, 67, 68, 69, 70] (by decide +kernel) (by decide +kernel)
set_option maxRecDepth 20000 in
theorem gX9_overlap_X9_plus : GoodIn wsX9_overlap (wsV RX9 95 RX9 yX9_plus wsX9_plus) := goodIn_app (goodIn_of _ (by decide +kernel)) ggX9_overlap_X9_plus
set_option maxRecDepth 20000 in
theorem ggX9_overlap_X9_over : GoodIn wsX9_overlap wsX9_over := goodIn_r _ [50, 1, 2, 36, 37, 38, 6, 39, 40, 41, 42, 57, 58, 59, 60, 61, 62, 63, 64, 65, 66, 67, 68, 69, 70] (by decide +kernel) (by decide +kernel)
set_option maxRecDepth 20000 in
theorem gX9_overlap_X9_over : GoodIn wsX9_overlap (wsV RX9 98 RX9 yX9_over wsX9_over) := goodIn_app (goodIn_of _ (by decide +kernel)) ggX9_overlap_X9_over
set_option maxRecDepth 20000 in
theorem ggX9_overlap_X9_show : GoodIn wsX9_overlap wsX9_show := goodIn_r _ [54, 1, 55, 2, 56, 57, 58, 59, 60, 61, 62, 63, 64, 65, 66, 67, 68, 69, 70] (by decide +kernel) (by decide +kernel)
set_option maxRecDepth 20000 in
theorem gX9_overlap_X9_show : GoodIn wsX9_overlap (wsV RX9 134 RX9 yX9_show wsX9_show) := goodIn_app (goodIn_of _ (by decide +kernel)) ggX9_overlap_X9_show
theorem dX9_overlap_0 : decode cX9_overlap 0 = .ok (.aload_n 0, 1) := by decide +kernel
theorem dX9_overlap_1 : decode cX9_overlap 1 = .ok (.iload_n 1, 1) := by decide +kernel
theorem dX9_overlap_2 : decode cX9_overlap 2 = .ok (.iload_n 3, 1) := by decide +kernel
theorem dX9_overlap_3 : decode cX9_overlap 3 = .ok (.invokevirtual 64, 3) := by decide +kernel
theorem dX9_overlap_6 : decode cX9_overlap 6 = .ok (.ifCond .eq 12, 3) := by decide +kernel
theorem dX9_overlap_9 : decode cX9_overlap 9 = .ok (.aload_n 0, 1) := by decide +kernel
theorem dX9_overlap_10 : decode cX9_overlap 10 = .ok (.iload_n 2, 1) := by decide +kernel
theorem dX9_overlap_11 : decode cX9_overlap 11 = .ok (.iload_n 3, 1) := by decide +kernel
theorem dX9_overlap_12 : decode cX9_overlap 12 = .ok (.invokevirtual 64, 3) := by decide +kernel
theorem dX9_overlap_15 : decode cX9_overlap 15 = .ok (.ifCond .ne 5, 3) := by decide +kernel
theorem dX9_overlap_18 : decode cX9_overlap 18 = .ok (.iconst (-1), 1) := by decide +kernel
theorem dX9_overlap_19 : decode cX9_overlap 19 = .ok (.ireturn, 1) := by decide +kernel
theorem dX9_overlap_20 : decode cX9_overlap 20 = .ok (.iload 4, 2) := by decide +kernel
theorem dX9_overlap_22 : decode cX9_overlap 22 = .ok (.invokestatic 127, 3) := by decide +kernel
theorem dX9_overlap_25 : decode cX9_overlap 25 = .ok (.ifCond .ne 6, 3) := by decide +kernel
theorem dX9_overlap_28 : decode cX9_overlap 28 = .ok (.bipush (-2), 2) := by decide +kernel
theorem dX9_overlap_30 : decode cX9_overlap 30 = .ok (.ireturn, 1) := by decide +kernel
theorem dX9_overlap_31 : decode cX9_overlap 31 = .ok (.lconst 0, 1) := by decide +kernel
theorem dX9_overlap_32 : decode cX9_overlap 32 = .ok (.lstore 5, 2) := by decide +kernel
theorem dX9_overlap_34 : decode cX9_overlap 34 = .ok (.lconst 1, 1) := by decide +kernel
theorem dX9_overlap_35 : decode cX9_overlap 35 = .ok (.lstore 7, 2) := by decide +kernel
theorem dX9_overlap_37 : decode cX9_overlap 37 = .ok (.iconst 1, 1) := by decide +kernel
theorem dX9_overlap_38 : decode cX9_overlap 38 = .ok (.istore 9, 2) := by decide +kernel
theorem dX9_overlap_40 : decode cX9_overlap 40 = .ok (.iload 9, 2) := by decide +kernel
theorem dX9_overlap_42 : decode cX9_overlap 42 = .ok (.iload 4, 2) := by decide +kernel
theorem dX9_overlap_44 : decode cX9_overlap 44 = .ok (.if_icmp .gt 98, 3) := by decide +kernel
theorem dX9_overlap_47 : decode cX9_overlap 47 = .ok (.lconst 0, 1) := by decide +kernel
theorem dX9_overlap_48 : decode cX9_overlap 48 = .ok (.lstore 10, 2) := by decide +kernel
theorem dX9_overlap_50 : decode cX9_overlap 50 = .ok (.iconst 0, 1) := by decide +kernel
theorem dX9_overlap_51 : decode cX9_overlap 51 = .ok (.istore 12, 2) := by decide +kernel
theorem dX9_overlap_53 : decode cX9_overlap 53 = .ok (.iload 12, 2) := by decide +kernel
theorem dX9_overlap_55 : decode cX9_overlap 55 = .ok (.aload_n 0, 1) := by decide +kernel
theorem dX9_overlap_56 : decode cX9_overlap 56 = .ok (.iload_n 1, 1) := by decide +kernel
theorem dX9_overlap_57 : decode cX9_overlap 57 = .ok (.iload_n 3, 1) := by decide +kernel
theorem dX9_overlap_58 : decode cX9_overlap 58 = .ok (.iload 9, 2) := by decide +kernel
theorem dX9_overlap_60 : decode cX9_overlap 60 = .ok (.invokevirtual 89, 3) := by decide +kernel
theorem dX9_overlap_63 : decode cX9_overlap 63 = .ok (.if_icmp .ge 44, 3) := by decide +kernel
theorem dX9_overlap_66 : decode cX9_overlap 66 = .ok (.lload 10, 2) := by decide +kernel
theorem dX9_overlap_68 : decode cX9_overlap 68 = .ok (.aload_n 0, 1) := by decide +kernel
theorem dX9_overlap_69 : decode cX9_overlap 69 = .ok (.iload_n 2, 1) := by decide +kernel
theorem dX9_overlap_70 : decode cX9_overlap 70 = .ok (.iload_n 3, 1) := by decide +kernel
theorem dX9_overlap_71 : decode cX9_overlap 71 = .ok (.aload_n 0, 1) := by decide +kernel
theorem dX9_overlap_72 : decode cX9_overlap 72 = .ok (.iload_n 1, 1) := by decide +kernel
theorem dX9_overlap_73 : decode cX9_overlap 73 = .ok (.iload_n 3, 1) := by decide +kernel
theorem dX9_overlap_74 : decode cX9_overlap 74 = .ok (.iload 12, 2) := by decide +kernel
theorem dX9_overlap_76 : decode cX9_overlap 76 = .ok (.invokevirtual 57, 3) := by decide +kernel
theorem dX9_overlap_79 : decode cX9_overlap 79 = .ok (.invokevirtual 61, 3) := by decide +kernel
theorem dX9_overlap_82 : decode cX9_overlap 82 = .ok (.aload_n 0, 1) := by decide +kernel
theorem dX9_overlap_83 : decode cX9_overlap 83 = .ok (.iload_n 2, 1) := by decide +kernel
theorem dX9_overlap_84 : decode cX9_overlap 84 = .ok (.iload_n 3, 1) := by decide +kernel
theorem dX9_overlap_85 : decode cX9_overlap 85 = .ok (.iload 9, 2) := by decide +kernel
theorem dX9_overlap_87 : decode cX9_overlap 87 = .ok (.invokevirtual 89, 3) := by decide +kernel
theorem dX9_overlap_90 : decode cX9_overlap 90 = .ok (.if_icmp .ge 7, 3) := by decide +kernel
theorem dX9_overlap_93 : decode cX9_overlap 93 = .ok (.lconst 1, 1) := by decide +kernel
theorem dX9_overlap_94 : decode cX9_overlap 94 = .ok (.goto 4, 3) := by decide +kernel
theorem dX9_overlap_97 : decode cX9_overlap 97 = .ok (.lconst 0, 1) := by decide +kernel
theorem dX9_overlap_98 : decode cX9_overlap 98 = .ok (.ladd, 1) := by decide +kernel
theorem dX9_overlap_99 : decode cX9_overlap 99 = .ok (.lstore 10, 2) := by decide +kernel
theorem dX9_overlap_101 : decode cX9_overlap 101 = .ok (.iinc 12 1, 3) := by decide +kernel
theorem dX9_overlap_104 : decode cX9_overlap 104 = .ok (.goto (-51), 3) := by decide +kernel
theorem dX9_overlap_107 : decode cX9_overlap 107 = .ok (.aload_n 0, 1) := by decide +kernel
theorem dX9_overlap_108 : decode cX9_overlap 108 = .ok (.lload 10, 2) := by decide +kernel
theorem dX9_overlap_110 : decode cX9_overlap 110 = .ok (.iload 9, 2) := by decide +kernel
theorem dX9_overlap_112 : decode cX9_overlap 112 = .ok (.i2l, 1) := by decide +kernel
theorem dX9_overlap_113 : decode cX9_overlap 113 = .ok (.invokevirtual 82, 3) := by decide +kernel
theorem dX9_overlap_116 : decode cX9_overlap 116 = .ok (.aload_n 0, 1) := by decide +kernel
theorem dX9_overlap_117 : decode cX9_overlap 117 = .ok (.lload 5, 2) := by decide +kernel
theorem dX9_overlap_119 : decode cX9_overlap 119 = .ok (.lload 7, 2) := by decide +kernel
theorem dX9_overlap_121 : decode cX9_overlap 121 = .ok (.invokevirtual 95, 3) := by decide +kernel
theorem dX9_overlap_124 : decode cX9_overlap 124 = .ok (.aload_n 0, 1) := by decide +kernel
theorem dX9_overlap_125 : decode cX9_overlap 125 = .ok (.getfield 75, 3) := by decide +kernel
