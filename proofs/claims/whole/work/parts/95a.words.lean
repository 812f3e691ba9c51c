/-! 95a: the law's words are the tables' (by chunk and place) -/
def chT : List (List Cond) := [k2_sels lw_privs, tables_1_1, tables_1_2, tables_1_3, tables_1_4]
theorem chT_in : ∀ C ∈ chT, ∀ w ∈ C, w ∈ lw_tbl := by
  show ∀ C ∈ [k2_sels lw_privs, tables_1_1, tables_1_2, tables_1_3, tables_1_4], ∀ w ∈ C, w ∈ k2_sels lw_privs ++ (tables_1_1 ++ (tables_1_2 ++ (tables_1_3 ++ tables_1_4)))
  refine List.forall_mem_cons.mpr ⟨fun _ h => List.mem_append_left _ h, ?_⟩
  refine List.forall_mem_cons.mpr ⟨fun _ h => List.mem_append_right _ (List.mem_append_left _ h), ?_⟩
  refine List.forall_mem_cons.mpr ⟨fun _ h => List.mem_append_right _ (List.mem_append_right _ (List.mem_append_left _ h)), ?_⟩
  refine List.forall_mem_cons.mpr ⟨fun _ h => List.mem_append_right _ (List.mem_append_right _ (List.mem_append_right _ (List.mem_append_left _ h))), ?_⟩
  refine List.forall_mem_cons.mpr ⟨fun _ h => List.mem_append_right _ (List.mem_append_right _ (List.mem_append_right _ (List.mem_append_right _ h))), ?_⟩
  exact fun _ h => absurd h List.not_mem_nil
theorem mem_c {big : List Cond} {ch : List (List Cond)} (hch : ∀ C ∈ ch, ∀ w ∈ C, w ∈ big) {ws : List Cond} (ps : List (Nat × Nat)) (hp : ws = ps.filterMap (fun q => (ch[q.1]?).bind (fun C => C[q.2]?))) : ∀ w ∈ ws, w ∈ big := by
  intro w hw
  rw [hp] at hw
  obtain ⟨q, -, hq⟩ := List.mem_filterMap.mp hw
  obtain ⟨C, h1, h2⟩ := Option.bind_eq_some_iff.mp hq
  exact hch C (List.mem_of_getElem? h1) w (List.mem_of_getElem? h2)
set_option maxRecDepth 20000 in
theorem inL_1 : ∀ w ∈ wsL_law_r1, w ∈ lw_tbl := mem_c chT_in [(1, 15), (1, 16), (1, 1), (3, 16), (3, 17), (1, 8), (1, 17), (1, 18), (1, 19), (1, 20), (1, 21), (1, 22), (1, 23), (1, 117), (1, 25), (1, 26), (1, 2), (1, 118), (1, 119), (1, 120), (1, 38), (1, 39), (1, 3), (1, 121)] (by decide +kernel)
set_option maxRecDepth 20000 in
theorem inL_2 : ∀ w ∈ wsL_law_r2, w ∈ lw_tbl := mem_c chT_in [(1, 55), (1, 56), (1, 4), (1, 122), (1, 85), (1, 5), (1, 28), (1, 29), (1, 30), (1, 32), (1, 41), (1, 42), (1, 43), (1, 54), (1, 44), (1, 45), (1, 58), (1, 59), (1, 60), (1, 83), (1, 61), (1, 84), (1, 62), (1, 86)] (by decide +kernel)
set_option maxRecDepth 20000 in
theorem inL_3 : ∀ w ∈ wsL_law_r3, w ∈ lw_tbl := mem_c chT_in [(1, 87), (1, 88), (1, 89), (1, 110), (1, 90), (1, 111), (1, 95), (1, 7), (1, 92), (1, 93), (1, 6), (1, 94), (1, 97), (1, 98), (1, 99), (1, 100), (3, 18), (3, 19), (3, 20), (3, 21), (3, 22), (3, 23), (3, 24), (3, 25)] (by decide +kernel)
set_option maxRecDepth 20000 in
theorem inL_4 : ∀ w ∈ wsL_law_r4, w ∈ lw_tbl := mem_c chT_in [(3, 27), (3, 29), (3, 30), (3, 31), (3, 33), (3, 34), (1, 136), (1, 137), (1, 138), (1, 139), (1, 140), (1, 142), (0, 0), (1, 143), (1, 144), (1, 145), (1, 146), (1, 147), (1, 148), (1, 149), (1, 150), (1, 151), (1, 152), (1, 153)] (by decide +kernel)
set_option maxRecDepth 20000 in
theorem inL_5 : ∀ w ∈ wsL_law_r5, w ∈ lw_tbl := mem_c chT_in [(1, 154), (3, 65), (3, 66), (3, 67), (3, 68), (3, 69), (3, 70), (3, 71), (3, 72), (3, 74), (0, 11), (3, 75), (1, 155), (1, 156), (1, 157), (1, 158), (1, 159), (1, 161), (0, 1), (1, 162), (1, 163), (1, 164), (1, 165), (1, 166)] (by decide +kernel)
set_option maxRecDepth 20000 in
theorem inL_6 : ∀ w ∈ wsL_law_r6, w ∈ lw_tbl := mem_c chT_in [(1, 167), (1, 168), (1, 169), (1, 170), (1, 101), (1, 171), (1, 172), (1, 173), (1, 174), (1, 175), (1, 176), (1, 177), (1, 178), (1, 102), (3, 76), (3, 77), (3, 78), (3, 79), (3, 80), (3, 81), (3, 82), (3, 83), (3, 85), (0, 12)] (by decide +kernel)
set_option maxRecDepth 20000 in
theorem inL_7 : ∀ w ∈ wsL_law_r7, w ∈ lw_tbl := mem_c chT_in [(3, 86), (3, 87), (3, 89), (0, 13), (3, 90), (3, 91), (3, 93), (0, 14), (3, 94), (1, 179), (1, 180), (1, 181), (1, 182), (1, 183), (1, 184), (1, 185), (1, 186), (3, 95), (3, 96), (3, 97), (3, 98), (1, 187), (1, 188), (1, 189)] (by decide +kernel)
set_option maxRecDepth 20000 in
theorem inL_8 : ∀ w ∈ wsL_law_r8, w ∈ lw_tbl := mem_c chT_in [(1, 190), (1, 191), (1, 193), (0, 2), (1, 194), (1, 195), (1, 196), (1, 197), (1, 198), (3, 99), (3, 100), (3, 101), (3, 102), (3, 103), (3, 105), (0, 15), (3, 106), (1, 199), (1, 200), (1, 201), (1, 202), (1, 203), (1, 204), (1, 205)] (by decide +kernel)
set_option maxRecDepth 20000 in
theorem inL_9 : ∀ w ∈ wsL_law_r9, w ∈ lw_tbl := mem_c chT_in [(1, 206), (3, 107), (3, 108), (3, 109), (3, 110), (1, 207), (1, 208), (1, 209), (1, 210), (1, 211), (1, 212), (1, 213), (1, 214), (1, 215), (1, 216), (1, 217), (1, 218), (1, 219), (1, 220), (1, 221), (1, 222), (1, 223), (3, 111), (3, 112)] (by decide +kernel)
set_option maxRecDepth 20000 in
theorem inL_10 : ∀ w ∈ wsL_law_r10, w ∈ lw_tbl := mem_c chT_in [(3, 113), (3, 114), (3, 115), (3, 117), (0, 16), (3, 118), (3, 119), (3, 121), (0, 17), (3, 122), (1, 224), (1, 225), (1, 226), (1, 227), (1, 228), (1, 229), (1, 230), (1, 231), (1, 232), (1, 233), (1, 234), (1, 235), (1, 9), (1, 236)] (by decide +kernel)
set_option maxRecDepth 20000 in
theorem inL_11 : ∀ w ∈ wsL_law_r11, w ∈ lw_tbl := mem_c chT_in [(2, 23), (2, 41), (2, 42), (1, 10), (2, 43), (1, 237), (1, 238), (1, 239), (2, 0), (2, 1), (2, 2), (2, 3), (2, 4), (2, 5), (2, 6), (2, 7), (2, 8), (2, 9), (1, 31), (2, 11), (2, 12), (2, 13), (2, 14), (2, 15)] (by decide +kernel)
set_option maxRecDepth 20000 in
theorem inL_12 : ∀ w ∈ wsL_law_r12, w ∈ lw_tbl := mem_c chT_in [(2, 16), (2, 17), (2, 18), (2, 19), (2, 20), (2, 21), (2, 22), (2, 24), (2, 25), (2, 26), (2, 27), (2, 28), (2, 29), (2, 30), (2, 31), (2, 32), (2, 33), (2, 34), (2, 35), (2, 36), (2, 37), (2, 38), (2, 39), (2, 40)] (by decide +kernel)
set_option maxRecDepth 20000 in
theorem inL_13 : ∀ w ∈ wsL_law_r13, w ∈ lw_tbl := mem_c chT_in [(2, 44), (2, 45), (2, 46), (2, 47), (3, 131), (3, 132), (3, 133), (3, 134), (3, 135), (3, 136), (3, 137), (3, 138), (3, 140), (0, 18), (3, 141), (3, 142), (3, 144), (0, 19), (3, 145), (3, 146), (3, 148), (0, 20), (3, 149), (3, 150)] (by decide +kernel)
set_option maxRecDepth 20000 in
theorem inL_14 : ∀ w ∈ wsL_law_r14, w ∈ lw_tbl := mem_c chT_in [(3, 152), (0, 21), (3, 153), (3, 154), (3, 156), (0, 22), (3, 157), (3, 28), (3, 158), (3, 159), (3, 160), (3, 161), (3, 163), (0, 23), (3, 164), (3, 165), (3, 167), (0, 24), (3, 168), (3, 169), (3, 171), (0, 25), (3, 172), (3, 173)] (by decide +kernel)
set_option maxRecDepth 20000 in
theorem inL_15 : ∀ w ∈ wsL_law_r15, w ∈ lw_tbl := mem_c chT_in [(3, 175), (0, 26), (3, 176), (3, 177), (3, 179), (0, 27), (3, 180), (3, 181), (3, 182), (3, 183), (3, 184), (3, 186), (0, 28), (3, 187), (3, 188), (3, 190), (0, 29), (3, 191), (3, 192), (3, 194), (0, 30), (3, 195), (3, 196), (3, 198)] (by decide +kernel)
set_option maxRecDepth 20000 in
theorem inL_16 : ∀ w ∈ wsL_law_r16, w ∈ lw_tbl := mem_c chT_in [(0, 31), (3, 199), (3, 26), (2, 48), (2, 49), (2, 50), (2, 51), (2, 52), (2, 53), (2, 54), (2, 55), (3, 123), (3, 124), (3, 125), (3, 126), (2, 56), (2, 57), (2, 58), (2, 59), (2, 60), (2, 61), (2, 62), (2, 63), (3, 127)] (by decide +kernel)
set_option maxRecDepth 20000 in
theorem inL_17 : ∀ w ∈ wsL_law_r17, w ∈ lw_tbl := mem_c chT_in [(3, 128), (3, 129), (3, 130), (2, 64), (2, 65), (2, 66), (2, 67), (2, 68), (2, 69), (2, 70), (2, 71), (1, 11), (2, 72), (2, 73), (2, 74), (2, 75), (2, 76), (2, 77), (2, 78), (2, 83), (2, 79), (2, 80), (1, 12), (2, 81)] (by decide +kernel)
set_option maxRecDepth 20000 in
theorem inL_18 : ∀ w ∈ wsL_law_r18, w ∈ lw_tbl := mem_c chT_in [(2, 82), (3, 200), (3, 201), (3, 202), (3, 203), (3, 204), (3, 205), (3, 206), (3, 207), (3, 208), (3, 209), (2, 84), (2, 85), (2, 86), (2, 87), (2, 88), (2, 89), (2, 90), (2, 91), (2, 92), (2, 93), (2, 94), (2, 96), (0, 3)] (by decide +kernel)
set_option maxRecDepth 20000 in
theorem inL_19 : ∀ w ∈ wsL_law_r19, w ∈ lw_tbl := mem_c chT_in [(2, 97), (2, 98), (2, 99), (2, 101), (0, 4), (2, 102), (2, 103), (2, 104), (2, 105), (2, 106), (2, 108), (2, 109), (2, 110), (2, 111), (3, 210), (3, 211), (3, 212), (3, 213), (3, 214), (3, 216), (0, 32), (3, 217), (3, 218), (3, 220)] (by decide +kernel)
set_option maxRecDepth 20000 in
theorem inL_20 : ∀ w ∈ wsL_law_r20, w ∈ lw_tbl := mem_c chT_in [(0, 33), (3, 221), (2, 112), (2, 113), (2, 114), (2, 115), (2, 116), (2, 118), (0, 5), (2, 119), (2, 120), (2, 121), (2, 122), (2, 123), (1, 46), (2, 124), (2, 125), (2, 126), (2, 127), (2, 128), (2, 130), (2, 131), (2, 132), (2, 133)] (by decide +kernel)
set_option maxRecDepth 20000 in
theorem inL_21 : ∀ w ∈ wsL_law_r21, w ∈ lw_tbl := mem_c chT_in [(2, 134), (2, 135), (2, 136), (2, 137), (2, 138), (2, 139), (2, 140), (2, 141), (2, 142), (3, 222), (3, 223), (3, 224), (3, 225), (3, 226), (3, 228), (0, 34), (3, 229), (3, 230), (3, 232), (0, 35), (3, 233), (2, 143), (2, 144), (2, 145)] (by decide +kernel)
set_option maxRecDepth 20000 in
theorem inL_22 : ∀ w ∈ wsL_law_r22, w ∈ lw_tbl := mem_c chT_in [(2, 146), (2, 147), (2, 148), (2, 149), (2, 150), (2, 151), (2, 152), (1, 13), (2, 153), (3, 234), (3, 235), (3, 236), (3, 237), (2, 154), (2, 155), (2, 156), (2, 157), (2, 158), (2, 159), (1, 14), (2, 160), (2, 161), (2, 162), (2, 163)] (by decide +kernel)
set_option maxRecDepth 20000 in
theorem inL_23 : ∀ w ∈ wsL_law_r23, w ∈ lw_tbl := mem_c chT_in [(2, 164), (3, 238), (3, 239), (4, 0), (4, 1), (2, 165), (2, 166), (2, 167), (2, 168), (2, 169), (2, 170), (2, 171), (2, 180), (2, 172), (2, 173), (2, 174), (2, 175), (2, 176), (2, 177), (2, 178), (2, 179), (4, 2), (4, 3), (4, 4)] (by decide +kernel)
set_option maxRecDepth 20000 in
theorem inL_24 : ∀ w ∈ wsL_law_r24, w ∈ lw_tbl := mem_c chT_in [(4, 5), (2, 181), (2, 182), (2, 183), (2, 184), (2, 185), (2, 186), (2, 187), (2, 188), (2, 189), (2, 191), (0, 6), (2, 192), (2, 193), (4, 6), (4, 7), (4, 8), (4, 9), (2, 194), (2, 195), (2, 196), (2, 197), (2, 198), (2, 199)] (by decide +kernel)
set_option maxRecDepth 20000 in
theorem inL_25 : ∀ w ∈ wsL_law_r25, w ∈ lw_tbl := mem_c chT_in [(2, 200), (2, 201), (1, 64), (1, 63), (1, 67), (2, 202), (2, 204), (0, 7), (2, 205), (2, 206), (2, 208), (0, 8), (2, 209), (2, 210), (2, 211), (2, 212), (2, 214), (0, 9), (2, 215), (2, 216), (2, 217), (2, 218), (2, 220), (0, 10)] (by decide +kernel)
set_option maxRecDepth 20000 in
theorem inL_26 : ∀ w ∈ wsL_law_r26, w ∈ lw_tbl := mem_c chT_in [(2, 221), (2, 222), (2, 223), (2, 224), (2, 225), (2, 226), (2, 227), (2, 228), (2, 229), (4, 10), (4, 11), (4, 12), (4, 13), (3, 35), (4, 14), (4, 16), (0, 36), (4, 17), (3, 32), (4, 18), (4, 20), (0, 37), (4, 21), (4, 22)] (by decide +kernel)
set_option maxRecDepth 20000 in
theorem inL_27 : ∀ w ∈ wsL_law_r27, w ∈ lw_tbl := mem_c chT_in [(4, 24), (0, 38), (4, 25), (4, 26), (4, 28), (0, 39), (4, 29), (4, 30), (4, 31), (4, 32), (4, 34), (0, 40), (4, 35), (2, 230), (2, 231), (2, 232), (2, 233), (2, 234), (2, 235), (2, 236), (2, 237), (1, 65), (1, 66), (2, 238)] (by decide +kernel)
set_option maxRecDepth 20000 in
theorem inL_28 : ∀ w ∈ wsL_law_r28, w ∈ lw_tbl := mem_c chT_in [(2, 239), (3, 0), (3, 1), (3, 4), (3, 5), (3, 6), (3, 7), (3, 8), (3, 9), (3, 10), (3, 11), (4, 36), (4, 37), (4, 38), (4, 39), (4, 40), (4, 42), (0, 41), (4, 43), (3, 12), (3, 13), (3, 14), (3, 15), (4, 44)] (by decide +kernel)
set_option maxRecDepth 20000 in
theorem inL_29 : ∀ w ∈ wsL_law_r29, w ∈ lw_tbl := mem_c chT_in [(4, 45), (4, 46), (4, 47)] (by decide +kernel)
set_option maxRecDepth 20000 in
theorem inL_X8 : ∀ w ∈ wsX80, w ∈ lw_tbl := mem_c chT_in [(1, 123), (1, 125), (1, 127), (1, 129), (1, 131), (1, 133)] (by decide +kernel)
set_option maxRecDepth 20000 in
theorem inL_X9 : ∀ w ∈ wsX90, w ∈ lw_tbl := mem_c chT_in [(3, 36), (3, 38), (3, 40), (3, 42), (3, 44), (3, 46), (3, 48), (3, 50), (3, 52), (3, 54), (3, 56), (3, 58), (3, 60), (3, 62)] (by decide +kernel)
set_option maxRecDepth 20000 in
theorem inL_X1 : ∀ w ∈ wsX10, w ∈ lw_tbl := mem_c chT_in [(1, 33), (1, 35)] (by decide +kernel)
set_option maxRecDepth 20000 in
theorem inL_X0 : ∀ w ∈ wsX00, w ∈ lw_tbl := mem_c chT_in [(1, 47), (1, 49), (1, 51)] (by decide +kernel)
set_option maxRecDepth 20000 in
theorem inL_X4 : ∀ w ∈ wsX40, w ∈ lw_tbl := mem_c chT_in [(1, 68), (1, 70), (1, 72), (1, 74), (1, 76), (1, 78), (1, 80)] (by decide +kernel)
set_option maxRecDepth 20000 in
theorem inL_X6 : ∀ w ∈ wsX60, w ∈ lw_tbl := mem_c chT_in [(1, 112), (1, 114)] (by decide +kernel)
set_option maxRecDepth 20000 in
theorem inL_X7 : ∀ w ∈ wsX70, w ∈ lw_tbl := mem_c chT_in [(1, 103), (1, 105), (1, 107)] (by decide +kernel)
theorem inL : ∀ w ∈ wsL_law, w ∈ lw_tbl := by
  have ap : ∀ {a b : List Cond}, (∀ w ∈ a, w ∈ lw_tbl) → (∀ w ∈ b, w ∈ lw_tbl) → ∀ w ∈ a ++ b, w ∈ lw_tbl := fun h1 h2 w hw => (List.mem_append.mp hw).elim (h1 w) (h2 w)
  exact ap (ap (ap (ap (ap (ap (ap (ap (ap inL_1 (ap inL_2 (ap inL_3 (ap inL_4 (ap inL_5 (ap inL_6 (ap inL_7 (ap inL_8 (ap inL_9 (ap inL_10 (ap inL_11 (ap inL_12 (ap inL_13 (ap inL_14 (ap inL_15 (ap inL_16 (ap inL_17 (ap inL_18 (ap inL_19 (ap inL_20 (ap inL_21 (ap inL_22 (ap inL_23 (ap inL_24 (ap inL_25 (ap inL_26 (ap inL_27 (ap inL_28 inL_29)))))))))))))))))))))))))))) inL_X8) inL_X9) inL_X1) inL_X0) inL_X4) inL_X6) inL_X7) (fun _ h => absurd h List.not_mem_nil)
