/-! 96b: the law's cases -/
set_option maxHeartbeats 4000000 in
set_option maxRecDepth 100000 in
theorem lc_grade {p : Program} {e : Env} {s : State} {m : MethodId} {below : List Frame} {meth : Method} {c : Code} {H : Heap} {locs : List Loc} {ls : Array Slot} {Q : State → Prop} (l : Launch) {b L : Nat} {xs : Nat → Int32} {D : va_G} {E : Nat → ClassId} {d1 d2 : Nat → Nat} {A1 A2 : Nat → Prop} {M1 M2 : Mem} {x : Int32} (X : LX p s m c b L xs D E A1 A2) (hi : 0 ≤ x.toInt ∧ x.toInt + 6 ≤ L) (hl : lv_has ls 4 [(0, .ref b), (1, .ref (d1 0)), (2, .ref (d2 0)), (3, .int x)]) (h1 : W3 true (D, E, d1) A1 M1 H) (h2 : W3 false (D, E, d2) A2 M2 H) (hR : Rel M1 M2) (hS : va_S (oldC s) s.heap H locs)
    (kk : ∀ (M1 M2 : Mem) (H : Heap) (locs : List Loc), W3 true (D, E, d1) A1 M1 H → W3 false (D, E, d2) A2 M2 H → Rel M1 M2 → va_S (oldC s) s.heap H locs → W p l e room_1 s m #[Value.ref b] below meth c H locs 600000 7302250 Q (F0 m 980 ls [])) : W p l e room_1 s m #[Value.ref b] below meth c H locs 600000 7302250 Q (F0 m 124 ls []) := by
  have hK := X.2.1
  have hbA : ¬ oldC s b := Nat.not_le.mpr X.2.2.2.2.2.2.2.1
  have i1 : vp_in (x + 1) L := lwin 1 ⟨by decide, by decide⟩ hi X.2.2.2.2.2.2.2.2
  have i2 : vp_in (x + 2) L := lwin 2 ⟨by decide, by decide⟩ hi X.2.2.2.2.2.2.2.2
  have i3 : vp_in (x + 3) L := lwin 3 ⟨by decide, by decide⟩ hi X.2.2.2.2.2.2.2.2
  refine lv_aload_n X.1.1 X.1.2.1 dL_law_124 rfl (lv_at hl 1 rfl) ?_
  refine lv_aload_n X.1.1 X.1.2.1 dL_law_125 rfl (lv_at hl 0 rfl) ?_
  refine lv_iload_n X.1.1 X.1.2.1 dL_law_126 rfl (lv_at hl 3 rfl) ?_
  refine lv_iconst (v := 1) X.1.1 X.1.2.1 dL_law_127 (by decide) ?_
  refine lv_iadd X.1.1 X.1.2.1 dL_law_128 ?_
  refine va_sld X.1.1 X.1.2.1 X.2.2.2.2.2.2.1 X.2.2.2.2.2.2.2.1 hbA hS i1 dL_law_129 ?_
  refine lv_aload_n X.1.1 X.1.2.1 dL_law_130 rfl (lv_at hl 0 rfl) ?_
  refine lv_iload_n X.1.1 X.1.2.1 dL_law_131 rfl (lv_at hl 3 rfl) ?_
  refine lv_iconst (v := 2) X.1.1 X.1.2.1 dL_law_132 (by decide) ?_
  refine lv_iadd X.1.1 X.1.2.1 dL_law_133 ?_
  refine va_sld X.1.1 X.1.2.1 X.2.2.2.2.2.2.1 X.2.2.2.2.2.2.2.1 hbA hS i2 dL_law_134 ?_
  refine lv_aload_n X.1.1 X.1.2.1 dL_law_135 rfl (lv_at hl 0 rfl) ?_
  refine lv_iload_n X.1.1 X.1.2.1 dL_law_136 rfl (lv_at hl 3 rfl) ?_
  refine lv_iconst (v := 3) X.1.1 X.1.2.1 dL_law_137 (by decide) ?_
  refine lv_iadd X.1.1 X.1.2.1 dL_law_138 ?_
  refine va_sld X.1.1 X.1.2.1 X.2.2.2.2.2.2.1 X.2.2.2.2.2.2.2.1 hbA hS i3 dL_law_139 ?_
  refine lwW (b := true) (G := (D, E, d1)) [.int (xs (x + 1).toNatClampNeg), .int (xs (x + 2).toNatClampNeg), .int (xs (x + 3).toNatClampNeg)] [] X.1 hK (X.e1 hS) h1 h2 (fun q z y => X.2.2.2.2.2.1 q y z) hS X.2.2.2.1 (c_X8_grade l (D, E, d1) A1 M1 ((xs (x + 1).toNatClampNeg)) ((xs (x + 2).toNatClampNeg)) ((xs (x + 3).toNatClampNeg))) (cwV 3 X.1.2.2.2.2 gL_law_X8_grade rfl rfl rfl (by decide +kernel) ⟨(Nat.le_of_ble_eq_true rfl), (Nat.le_of_ble_eq_true rfl)⟩) (h1.r1 hK) rfl rfl hl.1 (Nat.le_of_ble_eq_true rfl) dL_law_140 ⟨(Nat.le_of_ble_eq_true rfl), (Nat.le_of_ble_eq_true rfl)⟩ (fun H locs h1 h2 hS => ?_)
  refine lv_aload_n X.1.1 X.1.2.1 dL_law_143 rfl (lv_at hl 2 rfl) ?_
  refine lv_aload_n X.1.1 X.1.2.1 dL_law_144 rfl (lv_at hl 0 rfl) ?_
  refine lv_iload_n X.1.1 X.1.2.1 dL_law_145 rfl (lv_at hl 3 rfl) ?_
  refine lv_iconst (v := 1) X.1.1 X.1.2.1 dL_law_146 (by decide) ?_
  refine lv_iadd X.1.1 X.1.2.1 dL_law_147 ?_
  refine va_sld X.1.1 X.1.2.1 X.2.2.2.2.2.2.1 X.2.2.2.2.2.2.2.1 hbA hS i1 dL_law_148 ?_
  refine lv_aload_n X.1.1 X.1.2.1 dL_law_149 rfl (lv_at hl 0 rfl) ?_
  refine lv_iload_n X.1.1 X.1.2.1 dL_law_150 rfl (lv_at hl 3 rfl) ?_
  refine lv_iconst (v := 2) X.1.1 X.1.2.1 dL_law_151 (by decide) ?_
  refine lv_iadd X.1.1 X.1.2.1 dL_law_152 ?_
  refine va_sld X.1.1 X.1.2.1 X.2.2.2.2.2.2.1 X.2.2.2.2.2.2.2.1 hbA hS i2 dL_law_153 ?_
  refine lv_aload_n X.1.1 X.1.2.1 dL_law_154 rfl (lv_at hl 0 rfl) ?_
  refine lv_iload_n X.1.1 X.1.2.1 dL_law_155 rfl (lv_at hl 3 rfl) ?_
  refine lv_iconst (v := 3) X.1.1 X.1.2.1 dL_law_156 (by decide) ?_
  refine lv_iadd X.1.1 X.1.2.1 dL_law_157 ?_
  refine va_sld X.1.1 X.1.2.1 X.2.2.2.2.2.2.1 X.2.2.2.2.2.2.2.1 hbA hS i3 dL_law_158 ?_
  refine lwW (b := false) (G := (D, E, d2)) [.int (xs (x + 1).toNatClampNeg), .int (xs (x + 2).toNatClampNeg), .int (xs (x + 3).toNatClampNeg)] [.int (f_X8_grade M1 ((xs (x + 1).toNatClampNeg)) ((xs (x + 2).toNatClampNeg)) ((xs (x + 3).toNatClampNeg))).1] X.1 hK ex0 h2 h1 (fun q z y => X.2.2.2.2.2.1 q z y) hS X.2.2.2.2.1 (c_X9_grade l (D, E, d2) A2 M2 ((xs (x + 1).toNatClampNeg)) ((xs (x + 2).toNatClampNeg)) ((xs (x + 3).toNatClampNeg))) (cwV 3 X.1.2.2.2.2 gL_law_X9_grade rfl rfl rfl (by decide +kernel) ⟨(Nat.le_of_ble_eq_true rfl), (Nat.le_of_ble_eq_true rfl)⟩) (h2.r2 hK) rfl rfl hl.1 (Nat.le_of_ble_eq_true rfl) dL_law_159 ⟨(Nat.le_of_ble_eq_true rfl), (Nat.le_of_ble_eq_true rfl)⟩ (fun H locs h2 h1 hS => ?_)
  obtain ⟨q1, q2⟩ := eq_grade ((xs (x + 1).toNatClampNeg)) ((xs (x + 2).toNatClampNeg)) ((xs (x + 3).toNatClampNeg)) hR
  exact lv_icmp_eq (tgt := 980) X.1.1 X.1.2.1 dL_law_162 (by decide) (fun _ => kk _ _ H locs h1 h2 q2 hS) (fun cz => absurd q1 cz)
set_option maxHeartbeats 4000000 in
set_option maxRecDepth 100000 in
theorem lc_rank {p : Program} {e : Env} {s : State} {m : MethodId} {below : List Frame} {meth : Method} {c : Code} {H : Heap} {locs : List Loc} {ls : Array Slot} {Q : State → Prop} (l : Launch) {b L : Nat} {xs : Nat → Int32} {D : va_G} {E : Nat → ClassId} {d1 d2 : Nat → Nat} {A1 A2 : Nat → Prop} {M1 M2 : Mem} {x : Int32} (X : LX p s m c b L xs D E A1 A2) (hi : 0 ≤ x.toInt ∧ x.toInt + 6 ≤ L) (hl : lv_has ls 4 [(0, .ref b), (1, .ref (d1 0)), (2, .ref (d2 0)), (3, .int x)]) (h1 : W3 true (D, E, d1) A1 M1 H) (h2 : W3 false (D, E, d2) A2 M2 H) (hR : Rel M1 M2) (hS : va_S (oldC s) s.heap H locs)
    (kk : ∀ (M1 M2 : Mem) (H : Heap) (locs : List Loc), W3 true (D, E, d1) A1 M1 H → W3 false (D, E, d2) A2 M2 H → Rel M1 M2 → va_S (oldC s) s.heap H locs → W p l e room_1 s m #[Value.ref b] below meth c H locs 600000 7302250 Q (F0 m 980 ls [])) : W p l e room_1 s m #[Value.ref b] below meth c H locs 600000 7302250 Q (F0 m 167 ls []) := by
  have hK := X.2.1
  have hbA : ¬ oldC s b := Nat.not_le.mpr X.2.2.2.2.2.2.2.1
  have i1 : vp_in (x + 1) L := lwin 1 ⟨by decide, by decide⟩ hi X.2.2.2.2.2.2.2.2
  have i2 : vp_in (x + 2) L := lwin 2 ⟨by decide, by decide⟩ hi X.2.2.2.2.2.2.2.2
  have i3 : vp_in (x + 3) L := lwin 3 ⟨by decide, by decide⟩ hi X.2.2.2.2.2.2.2.2
  refine lv_aload_n X.1.1 X.1.2.1 dL_law_167 rfl (lv_at hl 1 rfl) ?_
  refine lv_aload_n X.1.1 X.1.2.1 dL_law_168 rfl (lv_at hl 0 rfl) ?_
  refine lv_iload_n X.1.1 X.1.2.1 dL_law_169 rfl (lv_at hl 3 rfl) ?_
  refine lv_iconst (v := 1) X.1.1 X.1.2.1 dL_law_170 (by decide) ?_
  refine lv_iadd X.1.1 X.1.2.1 dL_law_171 ?_
  refine va_sld X.1.1 X.1.2.1 X.2.2.2.2.2.2.1 X.2.2.2.2.2.2.2.1 hbA hS i1 dL_law_172 ?_
  refine lv_aload_n X.1.1 X.1.2.1 dL_law_173 rfl (lv_at hl 0 rfl) ?_
  refine lv_iload_n X.1.1 X.1.2.1 dL_law_174 rfl (lv_at hl 3 rfl) ?_
  refine lv_iconst (v := 2) X.1.1 X.1.2.1 dL_law_175 (by decide) ?_
  refine lv_iadd X.1.1 X.1.2.1 dL_law_176 ?_
  refine va_sld X.1.1 X.1.2.1 X.2.2.2.2.2.2.1 X.2.2.2.2.2.2.2.1 hbA hS i2 dL_law_177 ?_
  refine lv_aload_n X.1.1 X.1.2.1 dL_law_178 rfl (lv_at hl 0 rfl) ?_
  refine lv_iload_n X.1.1 X.1.2.1 dL_law_179 rfl (lv_at hl 3 rfl) ?_
  refine lv_iconst (v := 3) X.1.1 X.1.2.1 dL_law_180 (by decide) ?_
  refine lv_iadd X.1.1 X.1.2.1 dL_law_181 ?_
  refine va_sld X.1.1 X.1.2.1 X.2.2.2.2.2.2.1 X.2.2.2.2.2.2.2.1 hbA hS i3 dL_law_182 ?_
  refine lwW (b := true) (G := (D, E, d1)) [.int (xs (x + 1).toNatClampNeg), .int (xs (x + 2).toNatClampNeg), .int (xs (x + 3).toNatClampNeg)] [] X.1 hK (X.e1 hS) h1 h2 (fun q z y => X.2.2.2.2.2.1 q y z) hS X.2.2.2.1 (c_X8_rank l (D, E, d1) A1 M1 ((xs (x + 1).toNatClampNeg)) ((xs (x + 2).toNatClampNeg)) ((xs (x + 3).toNatClampNeg))) (cwV 3 X.1.2.2.2.2 gL_law_X8_rank rfl rfl rfl (by decide +kernel) ⟨(Nat.le_of_ble_eq_true rfl), (Nat.le_of_ble_eq_true rfl)⟩) (h1.r1 hK) rfl rfl hl.1 (Nat.le_of_ble_eq_true rfl) dL_law_183 ⟨(Nat.le_of_ble_eq_true rfl), (Nat.le_of_ble_eq_true rfl)⟩ (fun H locs h1 h2 hS => ?_)
  refine lv_aload_n X.1.1 X.1.2.1 dL_law_186 rfl (lv_at hl 2 rfl) ?_
  refine lv_aload_n X.1.1 X.1.2.1 dL_law_187 rfl (lv_at hl 0 rfl) ?_
  refine lv_iload_n X.1.1 X.1.2.1 dL_law_188 rfl (lv_at hl 3 rfl) ?_
  refine lv_iconst (v := 1) X.1.1 X.1.2.1 dL_law_189 (by decide) ?_
  refine lv_iadd X.1.1 X.1.2.1 dL_law_190 ?_
  refine va_sld X.1.1 X.1.2.1 X.2.2.2.2.2.2.1 X.2.2.2.2.2.2.2.1 hbA hS i1 dL_law_191 ?_
  refine lv_aload_n X.1.1 X.1.2.1 dL_law_192 rfl (lv_at hl 0 rfl) ?_
  refine lv_iload_n X.1.1 X.1.2.1 dL_law_193 rfl (lv_at hl 3 rfl) ?_
  refine lv_iconst (v := 2) X.1.1 X.1.2.1 dL_law_194 (by decide) ?_
  refine lv_iadd X.1.1 X.1.2.1 dL_law_195 ?_
  refine va_sld X.1.1 X.1.2.1 X.2.2.2.2.2.2.1 X.2.2.2.2.2.2.2.1 hbA hS i2 dL_law_196 ?_
  refine lv_aload_n X.1.1 X.1.2.1 dL_law_197 rfl (lv_at hl 0 rfl) ?_
  refine lv_iload_n X.1.1 X.1.2.1 dL_law_198 rfl (lv_at hl 3 rfl) ?_
  refine lv_iconst (v := 3) X.1.1 X.1.2.1 dL_law_199 (by decide) ?_
  refine lv_iadd X.1.1 X.1.2.1 dL_law_200 ?_
  refine va_sld X.1.1 X.1.2.1 X.2.2.2.2.2.2.1 X.2.2.2.2.2.2.2.1 hbA hS i3 dL_law_201 ?_
  refine lwW (b := false) (G := (D, E, d2)) [.int (xs (x + 1).toNatClampNeg), .int (xs (x + 2).toNatClampNeg), .int (xs (x + 3).toNatClampNeg)] [.int (f_X8_rank M1 ((xs (x + 1).toNatClampNeg)) ((xs (x + 2).toNatClampNeg)) ((xs (x + 3).toNatClampNeg))).1] X.1 hK ex0 h2 h1 (fun q z y => X.2.2.2.2.2.1 q z y) hS X.2.2.2.2.1 (c_X9_rank l (D, E, d2) A2 M2 ((xs (x + 1).toNatClampNeg)) ((xs (x + 2).toNatClampNeg)) ((xs (x + 3).toNatClampNeg))) (cwV 3 X.1.2.2.2.2 gL_law_X9_rank rfl rfl rfl (by decide +kernel) ⟨(Nat.le_of_ble_eq_true rfl), (Nat.le_of_ble_eq_true rfl)⟩) (h2.r2 hK) rfl rfl hl.1 (Nat.le_of_ble_eq_true rfl) dL_law_202 ⟨(Nat.le_of_ble_eq_true rfl), (Nat.le_of_ble_eq_true rfl)⟩ (fun H locs h2 h1 hS => ?_)
  obtain ⟨q1, q2⟩ := eq_rank ((xs (x + 1).toNatClampNeg)) ((xs (x + 2).toNatClampNeg)) ((xs (x + 3).toNatClampNeg)) hR
  exact lv_icmp_eq (tgt := 980) X.1.1 X.1.2.1 dL_law_205 (by decide) (fun _ => kk _ _ H locs h1 h2 q2 hS) (fun cz => absurd q1 cz)
set_option maxHeartbeats 4000000 in
set_option maxRecDepth 100000 in
theorem lc_empty {p : Program} {e : Env} {s : State} {m : MethodId} {below : List Frame} {meth : Method} {c : Code} {H : Heap} {locs : List Loc} {ls : Array Slot} {Q : State → Prop} (l : Launch) {b L : Nat} {xs : Nat → Int32} {D : va_G} {E : Nat → ClassId} {d1 d2 : Nat → Nat} {A1 A2 : Nat → Prop} {M1 M2 : Mem} {x : Int32} (X : LX p s m c b L xs D E A1 A2) (hi : 0 ≤ x.toInt ∧ x.toInt + 6 ≤ L) (hl : lv_has ls 4 [(0, .ref b), (1, .ref (d1 0)), (2, .ref (d2 0)), (3, .int x)]) (h1 : W3 true (D, E, d1) A1 M1 H) (h2 : W3 false (D, E, d2) A2 M2 H) (hR : Rel M1 M2) (hS : va_S (oldC s) s.heap H locs)
    (kk : ∀ (M1 M2 : Mem) (H : Heap) (locs : List Loc), W3 true (D, E, d1) A1 M1 H → W3 false (D, E, d2) A2 M2 H → Rel M1 M2 → va_S (oldC s) s.heap H locs → W p l e room_1 s m #[Value.ref b] below meth c H locs 600000 7302250 Q (F0 m 980 ls [])) : W p l e room_1 s m #[Value.ref b] below meth c H locs 600000 7302250 Q (F0 m 210 ls []) := by
  have hK := X.2.1
  have hbA : ¬ oldC s b := Nat.not_le.mpr X.2.2.2.2.2.2.2.1
  have i1 : vp_in (x + 1) L := lwin 1 ⟨by decide, by decide⟩ hi X.2.2.2.2.2.2.2.2
  have i2 : vp_in (x + 2) L := lwin 2 ⟨by decide, by decide⟩ hi X.2.2.2.2.2.2.2.2
  refine lv_aload_n X.1.1 X.1.2.1 dL_law_210 rfl (lv_at hl 1 rfl) ?_
  refine lv_aload_n X.1.1 X.1.2.1 dL_law_211 rfl (lv_at hl 0 rfl) ?_
  refine lv_iload_n X.1.1 X.1.2.1 dL_law_212 rfl (lv_at hl 3 rfl) ?_
  refine lv_iconst (v := 1) X.1.1 X.1.2.1 dL_law_213 (by decide) ?_
  refine lv_iadd X.1.1 X.1.2.1 dL_law_214 ?_
  refine va_sld X.1.1 X.1.2.1 X.2.2.2.2.2.2.1 X.2.2.2.2.2.2.2.1 hbA hS i1 dL_law_215 ?_
  refine lv_aload_n X.1.1 X.1.2.1 dL_law_216 rfl (lv_at hl 0 rfl) ?_
  refine lv_iload_n X.1.1 X.1.2.1 dL_law_217 rfl (lv_at hl 3 rfl) ?_
  refine lv_iconst (v := 2) X.1.1 X.1.2.1 dL_law_218 (by decide) ?_
  refine lv_iadd X.1.1 X.1.2.1 dL_law_219 ?_
  refine va_sld X.1.1 X.1.2.1 X.2.2.2.2.2.2.1 X.2.2.2.2.2.2.2.1 hbA hS i2 dL_law_220 ?_
  refine lwW (b := true) (G := (D, E, d1)) [.int (xs (x + 1).toNatClampNeg), .int (xs (x + 2).toNatClampNeg)] [] X.1 hK (X.e1 hS) h1 h2 (fun q z y => X.2.2.2.2.2.1 q y z) hS X.2.2.2.1 (c_X8_empty l (D, E, d1) A1 M1 ((xs (x + 1).toNatClampNeg)) ((xs (x + 2).toNatClampNeg))) (cwV 2 X.1.2.2.2.2 gL_law_X8_empty rfl rfl rfl (by decide +kernel) ⟨(Nat.le_of_ble_eq_true rfl), (Nat.le_of_ble_eq_true rfl)⟩) (h1.r1 hK) rfl rfl hl.1 (Nat.le_of_ble_eq_true rfl) dL_law_221 ⟨(Nat.le_of_ble_eq_true rfl), (Nat.le_of_ble_eq_true rfl)⟩ (fun H locs h1 h2 hS => ?_)
  refine lv_aload_n X.1.1 X.1.2.1 dL_law_224 rfl (lv_at hl 2 rfl) ?_
  refine lv_aload_n X.1.1 X.1.2.1 dL_law_225 rfl (lv_at hl 0 rfl) ?_
  refine lv_iload_n X.1.1 X.1.2.1 dL_law_226 rfl (lv_at hl 3 rfl) ?_
  refine lv_iconst (v := 1) X.1.1 X.1.2.1 dL_law_227 (by decide) ?_
  refine lv_iadd X.1.1 X.1.2.1 dL_law_228 ?_
  refine va_sld X.1.1 X.1.2.1 X.2.2.2.2.2.2.1 X.2.2.2.2.2.2.2.1 hbA hS i1 dL_law_229 ?_
  refine lv_aload_n X.1.1 X.1.2.1 dL_law_230 rfl (lv_at hl 0 rfl) ?_
  refine lv_iload_n X.1.1 X.1.2.1 dL_law_231 rfl (lv_at hl 3 rfl) ?_
  refine lv_iconst (v := 2) X.1.1 X.1.2.1 dL_law_232 (by decide) ?_
  refine lv_iadd X.1.1 X.1.2.1 dL_law_233 ?_
  refine va_sld X.1.1 X.1.2.1 X.2.2.2.2.2.2.1 X.2.2.2.2.2.2.2.1 hbA hS i2 dL_law_234 ?_
  refine lwW (b := false) (G := (D, E, d2)) [.int (xs (x + 1).toNatClampNeg), .int (xs (x + 2).toNatClampNeg)] [.int (f_X8_empty M1 ((xs (x + 1).toNatClampNeg)) ((xs (x + 2).toNatClampNeg))).1] X.1 hK ex0 h2 h1 (fun q z y => X.2.2.2.2.2.1 q z y) hS X.2.2.2.2.1 (c_X9_empty l (D, E, d2) A2 M2 ((xs (x + 1).toNatClampNeg)) ((xs (x + 2).toNatClampNeg))) (cwV 2 X.1.2.2.2.2 gL_law_X9_empty rfl rfl rfl (by decide +kernel) ⟨(Nat.le_of_ble_eq_true rfl), (Nat.le_of_ble_eq_true rfl)⟩) (h2.r2 hK) rfl rfl hl.1 (Nat.le_of_ble_eq_true rfl) dL_law_235 ⟨(Nat.le_of_ble_eq_true rfl), (Nat.le_of_ble_eq_true rfl)⟩ (fun H locs h2 h1 hS => ?_)
  obtain ⟨q1, q2⟩ := eq_empty ((xs (x + 1).toNatClampNeg)) ((xs (x + 2).toNatClampNeg)) hR
  exact lv_icmp_eq (tgt := 980) X.1.1 X.1.2.1 dL_law_238 (by decide) (fun _ => kk _ _ H locs h1 h2 q2 hS) (fun cz => absurd q1 cz)
set_option maxHeartbeats 4000000 in
set_option maxRecDepth 100000 in
theorem lc_drop {p : Program} {e : Env} {s : State} {m : MethodId} {below : List Frame} {meth : Method} {c : Code} {H : Heap} {locs : List Loc} {ls : Array Slot} {Q : State → Prop} (l : Launch) {b L : Nat} {xs : Nat → Int32} {D : va_G} {E : Nat → ClassId} {d1 d2 : Nat → Nat} {A1 A2 : Nat → Prop} {M1 M2 : Mem} {x : Int32} (X : LX p s m c b L xs D E A1 A2) (hi : 0 ≤ x.toInt ∧ x.toInt + 6 ≤ L) (hl : lv_has ls 4 [(0, .ref b), (1, .ref (d1 0)), (2, .ref (d2 0)), (3, .int x)]) (h1 : W3 true (D, E, d1) A1 M1 H) (h2 : W3 false (D, E, d2) A2 M2 H) (hR : Rel M1 M2) (hS : va_S (oldC s) s.heap H locs)
    (kk : ∀ (M1 M2 : Mem) (H : Heap) (locs : List Loc), W3 true (D, E, d1) A1 M1 H → W3 false (D, E, d2) A2 M2 H → Rel M1 M2 → va_S (oldC s) s.heap H locs → W p l e room_1 s m #[Value.ref b] below meth c H locs 600000 7302250 Q (F0 m 980 ls [])) : W p l e room_1 s m #[Value.ref b] below meth c H locs 600000 7302250 Q (F0 m 243 ls []) := by
  have hK := X.2.1
  have hbA : ¬ oldC s b := Nat.not_le.mpr X.2.2.2.2.2.2.2.1
  have i1 : vp_in (x + 1) L := lwin 1 ⟨by decide, by decide⟩ hi X.2.2.2.2.2.2.2.2
  have i2 : vp_in (x + 2) L := lwin 2 ⟨by decide, by decide⟩ hi X.2.2.2.2.2.2.2.2
  refine lv_aload_n X.1.1 X.1.2.1 dL_law_243 rfl (lv_at hl 1 rfl) ?_
  refine lv_aload_n X.1.1 X.1.2.1 dL_law_244 rfl (lv_at hl 0 rfl) ?_
  refine lv_iload_n X.1.1 X.1.2.1 dL_law_245 rfl (lv_at hl 3 rfl) ?_
  refine lv_iconst (v := 1) X.1.1 X.1.2.1 dL_law_246 (by decide) ?_
  refine lv_iadd X.1.1 X.1.2.1 dL_law_247 ?_
  refine va_sld X.1.1 X.1.2.1 X.2.2.2.2.2.2.1 X.2.2.2.2.2.2.2.1 hbA hS i1 dL_law_248 ?_
  refine lv_aload_n X.1.1 X.1.2.1 dL_law_249 rfl (lv_at hl 0 rfl) ?_
  refine lv_iload_n X.1.1 X.1.2.1 dL_law_250 rfl (lv_at hl 3 rfl) ?_
  refine lv_iconst (v := 2) X.1.1 X.1.2.1 dL_law_251 (by decide) ?_
  refine lv_iadd X.1.1 X.1.2.1 dL_law_252 ?_
  refine va_sld X.1.1 X.1.2.1 X.2.2.2.2.2.2.1 X.2.2.2.2.2.2.2.1 hbA hS i2 dL_law_253 ?_
  refine lwW (b := true) (G := (D, E, d1)) [.int (xs (x + 1).toNatClampNeg), .int (xs (x + 2).toNatClampNeg)] [] X.1 hK (X.e1 hS) h1 h2 (fun q z y => X.2.2.2.2.2.1 q y z) hS X.2.2.2.1 (c_X8_drop l (D, E, d1) A1 M1 ((xs (x + 1).toNatClampNeg)) ((xs (x + 2).toNatClampNeg))) (cwV 2 X.1.2.2.2.2 gL_law_X8_drop rfl rfl rfl (by decide +kernel) ⟨(Nat.le_of_ble_eq_true rfl), (Nat.le_of_ble_eq_true rfl)⟩) (h1.r1 hK) rfl rfl hl.1 (Nat.le_of_ble_eq_true rfl) dL_law_254 ⟨(Nat.le_of_ble_eq_true rfl), (Nat.le_of_ble_eq_true rfl)⟩ (fun H locs h1 h2 hS => ?_)
  refine lv_aload_n X.1.1 X.1.2.1 dL_law_257 rfl (lv_at hl 2 rfl) ?_
  refine lv_aload_n X.1.1 X.1.2.1 dL_law_258 rfl (lv_at hl 0 rfl) ?_
  refine lv_iload_n X.1.1 X.1.2.1 dL_law_259 rfl (lv_at hl 3 rfl) ?_
  refine lv_iconst (v := 1) X.1.1 X.1.2.1 dL_law_260 (by decide) ?_
  refine lv_iadd X.1.1 X.1.2.1 dL_law_261 ?_
  refine va_sld X.1.1 X.1.2.1 X.2.2.2.2.2.2.1 X.2.2.2.2.2.2.2.1 hbA hS i1 dL_law_262 ?_
  refine lv_aload_n X.1.1 X.1.2.1 dL_law_263 rfl (lv_at hl 0 rfl) ?_
  refine lv_iload_n X.1.1 X.1.2.1 dL_law_264 rfl (lv_at hl 3 rfl) ?_
  refine lv_iconst (v := 2) X.1.1 X.1.2.1 dL_law_265 (by decide) ?_
  refine lv_iadd X.1.1 X.1.2.1 dL_law_266 ?_
  refine va_sld X.1.1 X.1.2.1 X.2.2.2.2.2.2.1 X.2.2.2.2.2.2.2.1 hbA hS i2 dL_law_267 ?_
  refine lwW (b := false) (G := (D, E, d2)) [.int (xs (x + 1).toNatClampNeg), .int (xs (x + 2).toNatClampNeg)] [.int (f_X8_drop M1 ((xs (x + 1).toNatClampNeg)) ((xs (x + 2).toNatClampNeg))).1] X.1 hK ex0 h2 h1 (fun q z y => X.2.2.2.2.2.1 q z y) hS X.2.2.2.2.1 (c_X9_drop l (D, E, d2) A2 M2 ((xs (x + 1).toNatClampNeg)) ((xs (x + 2).toNatClampNeg))) (cwV 2 X.1.2.2.2.2 gL_law_X9_drop rfl rfl rfl (by decide +kernel) ⟨(Nat.le_of_ble_eq_true rfl), (Nat.le_of_ble_eq_true rfl)⟩) (h2.r2 hK) rfl rfl hl.1 (Nat.le_of_ble_eq_true rfl) dL_law_268 ⟨(Nat.le_of_ble_eq_true rfl), (Nat.le_of_ble_eq_true rfl)⟩ (fun H locs h2 h1 hS => ?_)
  obtain ⟨q1, q2⟩ := eq_drop ((xs (x + 1).toNatClampNeg)) ((xs (x + 2).toNatClampNeg)) hR
  exact lv_icmp_eq (tgt := 980) X.1.1 X.1.2.1 dL_law_271 (by decide) (fun _ => kk _ _ H locs h1 h2 q2 hS) (fun cz => absurd q1 cz)
set_option maxHeartbeats 4000000 in
set_option maxRecDepth 100000 in
theorem lc_at {p : Program} {e : Env} {s : State} {m : MethodId} {below : List Frame} {meth : Method} {c : Code} {H : Heap} {locs : List Loc} {ls : Array Slot} {Q : State → Prop} (l : Launch) {b L : Nat} {xs : Nat → Int32} {D : va_G} {E : Nat → ClassId} {d1 d2 : Nat → Nat} {A1 A2 : Nat → Prop} {M1 M2 : Mem} {x : Int32} (X : LX p s m c b L xs D E A1 A2) (hi : 0 ≤ x.toInt ∧ x.toInt + 6 ≤ L) (hl : lv_has ls 4 [(0, .ref b), (1, .ref (d1 0)), (2, .ref (d2 0)), (3, .int x)]) (h1 : W3 true (D, E, d1) A1 M1 H) (h2 : W3 false (D, E, d2) A2 M2 H) (hR : Rel M1 M2) (hS : va_S (oldC s) s.heap H locs)
    (kk : ∀ (M1 M2 : Mem) (H : Heap) (locs : List Loc), W3 true (D, E, d1) A1 M1 H → W3 false (D, E, d2) A2 M2 H → Rel M1 M2 → va_S (oldC s) s.heap H locs → W p l e room_1 s m #[Value.ref b] below meth c H locs 600000 7302250 Q (F0 m 980 ls [])) : W p l e room_1 s m #[Value.ref b] below meth c H locs 600000 7302250 Q (F0 m 276 ls []) := by
  have hK := X.2.1
  have hbA : ¬ oldC s b := Nat.not_le.mpr X.2.2.2.2.2.2.2.1
  have i1 : vp_in (x + 1) L := lwin 1 ⟨by decide, by decide⟩ hi X.2.2.2.2.2.2.2.2
  have i2 : vp_in (x + 2) L := lwin 2 ⟨by decide, by decide⟩ hi X.2.2.2.2.2.2.2.2
  have i3 : vp_in (x + 3) L := lwin 3 ⟨by decide, by decide⟩ hi X.2.2.2.2.2.2.2.2
  refine lv_aload_n X.1.1 X.1.2.1 dL_law_276 rfl (lv_at hl 1 rfl) ?_
  refine lv_aload_n X.1.1 X.1.2.1 dL_law_277 rfl (lv_at hl 0 rfl) ?_
  refine lv_iload_n X.1.1 X.1.2.1 dL_law_278 rfl (lv_at hl 3 rfl) ?_
  refine lv_iconst (v := 1) X.1.1 X.1.2.1 dL_law_279 (by decide) ?_
  refine lv_iadd X.1.1 X.1.2.1 dL_law_280 ?_
  refine va_sld X.1.1 X.1.2.1 X.2.2.2.2.2.2.1 X.2.2.2.2.2.2.2.1 hbA hS i1 dL_law_281 ?_
  refine lv_aload_n X.1.1 X.1.2.1 dL_law_282 rfl (lv_at hl 0 rfl) ?_
  refine lv_iload_n X.1.1 X.1.2.1 dL_law_283 rfl (lv_at hl 3 rfl) ?_
  refine lv_iconst (v := 2) X.1.1 X.1.2.1 dL_law_284 (by decide) ?_
  refine lv_iadd X.1.1 X.1.2.1 dL_law_285 ?_
  refine va_sld X.1.1 X.1.2.1 X.2.2.2.2.2.2.1 X.2.2.2.2.2.2.2.1 hbA hS i2 dL_law_286 ?_
  refine lv_aload_n X.1.1 X.1.2.1 dL_law_287 rfl (lv_at hl 0 rfl) ?_
  refine lv_iload_n X.1.1 X.1.2.1 dL_law_288 rfl (lv_at hl 3 rfl) ?_
  refine lv_iconst (v := 3) X.1.1 X.1.2.1 dL_law_289 (by decide) ?_
  refine lv_iadd X.1.1 X.1.2.1 dL_law_290 ?_
  refine va_sld X.1.1 X.1.2.1 X.2.2.2.2.2.2.1 X.2.2.2.2.2.2.2.1 hbA hS i3 dL_law_291 ?_
  refine lwI (b := true) (G := (D, E, d1)) [.int (xs (x + 1).toNatClampNeg), .int (xs (x + 2).toNatClampNeg), .int (xs (x + 3).toNatClampNeg)] [] X.1 hK (X.e1 hS) h1 (c_X8_at l (D, E, d1) A1 M1 ((xs (x + 1).toNatClampNeg)) ((xs (x + 2).toNatClampNeg)) ((xs (x + 3).toNatClampNeg))) (cwV 3 X.1.2.2.2.2 gL_law_X8_at rfl rfl rfl (by decide +kernel) ⟨(Nat.le_of_ble_eq_true rfl), (Nat.le_of_ble_eq_true rfl)⟩) (h1.r1 hK) rfl rfl hl.1 (Nat.le_of_ble_eq_true rfl) dL_law_292 ⟨(Nat.le_of_ble_eq_true rfl), (Nat.le_of_ble_eq_true rfl)⟩ ?_
  refine lv_aload_n X.1.1 X.1.2.1 dL_law_295 rfl (lv_at hl 2 rfl) ?_
  refine lv_aload_n X.1.1 X.1.2.1 dL_law_296 rfl (lv_at hl 0 rfl) ?_
  refine lv_iload_n X.1.1 X.1.2.1 dL_law_297 rfl (lv_at hl 3 rfl) ?_
  refine lv_iconst (v := 1) X.1.1 X.1.2.1 dL_law_298 (by decide) ?_
  refine lv_iadd X.1.1 X.1.2.1 dL_law_299 ?_
  refine va_sld X.1.1 X.1.2.1 X.2.2.2.2.2.2.1 X.2.2.2.2.2.2.2.1 hbA hS i1 dL_law_300 ?_
  refine lv_aload_n X.1.1 X.1.2.1 dL_law_301 rfl (lv_at hl 0 rfl) ?_
  refine lv_iload_n X.1.1 X.1.2.1 dL_law_302 rfl (lv_at hl 3 rfl) ?_
  refine lv_iconst (v := 2) X.1.1 X.1.2.1 dL_law_303 (by decide) ?_
  refine lv_iadd X.1.1 X.1.2.1 dL_law_304 ?_
  refine va_sld X.1.1 X.1.2.1 X.2.2.2.2.2.2.1 X.2.2.2.2.2.2.2.1 hbA hS i2 dL_law_305 ?_
  refine lv_aload_n X.1.1 X.1.2.1 dL_law_306 rfl (lv_at hl 0 rfl) ?_
  refine lv_iload_n X.1.1 X.1.2.1 dL_law_307 rfl (lv_at hl 3 rfl) ?_
  refine lv_iconst (v := 3) X.1.1 X.1.2.1 dL_law_308 (by decide) ?_
  refine lv_iadd X.1.1 X.1.2.1 dL_law_309 ?_
  refine va_sld X.1.1 X.1.2.1 X.2.2.2.2.2.2.1 X.2.2.2.2.2.2.2.1 hbA hS i3 dL_law_310 ?_
  refine lwI (b := false) (G := (D, E, d2)) [.int (xs (x + 1).toNatClampNeg), .int (xs (x + 2).toNatClampNeg), .int (xs (x + 3).toNatClampNeg)] [.int (f_X8_at M1 ((xs (x + 1).toNatClampNeg)) ((xs (x + 2).toNatClampNeg)) ((xs (x + 3).toNatClampNeg)))] X.1 hK ex0 h2 (c_X9_at l (D, E, d2) A2 M2 ((xs (x + 1).toNatClampNeg)) ((xs (x + 2).toNatClampNeg)) ((xs (x + 3).toNatClampNeg))) (cwV 3 X.1.2.2.2.2 gL_law_X9_at rfl rfl rfl (by decide +kernel) ⟨(Nat.le_of_ble_eq_true rfl), (Nat.le_of_ble_eq_true rfl)⟩) (h2.r2 hK) rfl rfl hl.1 (Nat.le_of_ble_eq_true rfl) dL_law_311 ⟨(Nat.le_of_ble_eq_true rfl), (Nat.le_of_ble_eq_true rfl)⟩ ?_
  exact lv_icmp_eq (tgt := 980) X.1.1 X.1.2.1 dL_law_314 (by decide) (fun _ => kk _ _ H locs h1 h2 hR hS) (fun cz => absurd (eq_at ((xs (x + 1).toNatClampNeg)) ((xs (x + 2).toNatClampNeg)) ((xs (x + 3).toNatClampNeg)) hR) cz)
