/-! 96c: the law's cases -/
set_option maxHeartbeats 4000000 in
set_option maxRecDepth 100000 in
theorem lc_count {p : Program} {e : Env} {s : State} {m : MethodId} {below : List Frame} {meth : Method} {c : Code} {H : Heap} {locs : List Loc} {ls : Array Slot} {Q : State → Prop} (l : Launch) {b L : Nat} {xs : Nat → Int32} {D : va_G} {E : Nat → ClassId} {d1 d2 : Nat → Nat} {A1 A2 : Nat → Prop} {M1 M2 : Mem} {x : Int32} (X : LX p s m c b L xs D E A1 A2) (hi : 0 ≤ x.toInt ∧ x.toInt + 6 ≤ L) (hl : lv_has ls 4 [(0, .ref b), (1, .ref (d1 0)), (2, .ref (d2 0)), (3, .int x)]) (h1 : W3 true (D, E, d1) A1 M1 H) (h2 : W3 false (D, E, d2) A2 M2 H) (hR : Rel M1 M2) (hS : va_S (oldC s) s.heap H locs)
    (kk : ∀ (M1 M2 : Mem) (H : Heap) (locs : List Loc), W3 true (D, E, d1) A1 M1 H → W3 false (D, E, d2) A2 M2 H → Rel M1 M2 → va_S (oldC s) s.heap H locs → W p l e room_1 s m #[Value.ref b] below meth c H locs 600000 7302250 Q (F0 m 980 ls [])) : W p l e room_1 s m #[Value.ref b] below meth c H locs 600000 7302250 Q (F0 m 319 ls []) := by
  have hK := X.2.1
  have hbA : ¬ oldC s b := Nat.not_le.mpr X.2.2.2.2.2.2.2.1
  have i1 : vp_in (x + 1) L := lwin 1 ⟨by decide, by decide⟩ hi X.2.2.2.2.2.2.2.2
  have i2 : vp_in (x + 2) L := lwin 2 ⟨by decide, by decide⟩ hi X.2.2.2.2.2.2.2.2
  refine lv_aload_n X.1.1 X.1.2.1 dL_law_319 rfl (lv_at hl 1 rfl) ?_
  refine lv_aload_n X.1.1 X.1.2.1 dL_law_320 rfl (lv_at hl 0 rfl) ?_
  refine lv_iload_n X.1.1 X.1.2.1 dL_law_321 rfl (lv_at hl 3 rfl) ?_
  refine lv_iconst (v := 1) X.1.1 X.1.2.1 dL_law_322 (by decide) ?_
  refine lv_iadd X.1.1 X.1.2.1 dL_law_323 ?_
  refine va_sld X.1.1 X.1.2.1 X.2.2.2.2.2.2.1 X.2.2.2.2.2.2.2.1 hbA hS i1 dL_law_324 ?_
  refine lv_aload_n X.1.1 X.1.2.1 dL_law_325 rfl (lv_at hl 0 rfl) ?_
  refine lv_iload_n X.1.1 X.1.2.1 dL_law_326 rfl (lv_at hl 3 rfl) ?_
  refine lv_iconst (v := 2) X.1.1 X.1.2.1 dL_law_327 (by decide) ?_
  refine lv_iadd X.1.1 X.1.2.1 dL_law_328 ?_
  refine va_sld X.1.1 X.1.2.1 X.2.2.2.2.2.2.1 X.2.2.2.2.2.2.2.1 hbA hS i2 dL_law_329 ?_
  refine lwI (b := true) (G := (D, E, d1)) [.int (xs (x + 1).toNatClampNeg), .int (xs (x + 2).toNatClampNeg)] [] X.1 hK (X.e1 hS) h1 (c_X8_count l (D, E, d1) A1 M1 ((xs (x + 1).toNatClampNeg)) ((xs (x + 2).toNatClampNeg))) (cwV 2 X.1.2.2.2.2 gL_law_X8_count rfl rfl rfl (by decide +kernel) ⟨(Nat.le_of_ble_eq_true rfl), (Nat.le_of_ble_eq_true rfl)⟩) (h1.r1 hK) rfl rfl hl.1 (Nat.le_of_ble_eq_true rfl) dL_law_330 ⟨(Nat.le_of_ble_eq_true rfl), (Nat.le_of_ble_eq_true rfl)⟩ ?_
  refine lv_aload_n X.1.1 X.1.2.1 dL_law_333 rfl (lv_at hl 2 rfl) ?_
  refine lv_aload_n X.1.1 X.1.2.1 dL_law_334 rfl (lv_at hl 0 rfl) ?_
  refine lv_iload_n X.1.1 X.1.2.1 dL_law_335 rfl (lv_at hl 3 rfl) ?_
  refine lv_iconst (v := 1) X.1.1 X.1.2.1 dL_law_336 (by decide) ?_
  refine lv_iadd X.1.1 X.1.2.1 dL_law_337 ?_
  refine va_sld X.1.1 X.1.2.1 X.2.2.2.2.2.2.1 X.2.2.2.2.2.2.2.1 hbA hS i1 dL_law_338 ?_
  refine lv_aload_n X.1.1 X.1.2.1 dL_law_339 rfl (lv_at hl 0 rfl) ?_
  refine lv_iload_n X.1.1 X.1.2.1 dL_law_340 rfl (lv_at hl 3 rfl) ?_
  refine lv_iconst (v := 2) X.1.1 X.1.2.1 dL_law_341 (by decide) ?_
  refine lv_iadd X.1.1 X.1.2.1 dL_law_342 ?_
  refine va_sld X.1.1 X.1.2.1 X.2.2.2.2.2.2.1 X.2.2.2.2.2.2.2.1 hbA hS i2 dL_law_343 ?_
  refine lwI (b := false) (G := (D, E, d2)) [.int (xs (x + 1).toNatClampNeg), .int (xs (x + 2).toNatClampNeg)] [.int (f_X8_count M1 ((xs (x + 1).toNatClampNeg)) ((xs (x + 2).toNatClampNeg)))] X.1 hK ex0 h2 (c_X9_count l (D, E, d2) A2 M2 ((xs (x + 1).toNatClampNeg)) ((xs (x + 2).toNatClampNeg))) (cwV 2 X.1.2.2.2.2 gL_law_X9_count rfl rfl rfl (by decide +kernel) ⟨(Nat.le_of_ble_eq_true rfl), (Nat.le_of_ble_eq_true rfl)⟩) (h2.r2 hK) rfl rfl hl.1 (Nat.le_of_ble_eq_true rfl) dL_law_344 ⟨(Nat.le_of_ble_eq_true rfl), (Nat.le_of_ble_eq_true rfl)⟩ ?_
  exact lv_icmp_eq (tgt := 980) X.1.1 X.1.2.1 dL_law_347 (by decide) (fun _ => kk _ _ H locs h1 h2 hR hS) (fun cz => absurd (eq_count ((xs (x + 1).toNatClampNeg)) ((xs (x + 2).toNatClampNeg)) hR) cz)
set_option maxHeartbeats 4000000 in
set_option maxRecDepth 100000 in
theorem lc_measure {p : Program} {e : Env} {s : State} {m : MethodId} {below : List Frame} {meth : Method} {c : Code} {H : Heap} {locs : List Loc} {ls : Array Slot} {Q : State → Prop} (l : Launch) {b L : Nat} {xs : Nat → Int32} {D : va_G} {E : Nat → ClassId} {d1 d2 : Nat → Nat} {A1 A2 : Nat → Prop} {M1 M2 : Mem} {x : Int32} (X : LX p s m c b L xs D E A1 A2) (hi : 0 ≤ x.toInt ∧ x.toInt + 6 ≤ L) (hl : lv_has ls 4 [(0, .ref b), (1, .ref (d1 0)), (2, .ref (d2 0)), (3, .int x)]) (h1 : W3 true (D, E, d1) A1 M1 H) (h2 : W3 false (D, E, d2) A2 M2 H) (hR : Rel M1 M2) (hS : va_S (oldC s) s.heap H locs)
    (kk : ∀ (M1 M2 : Mem) (H : Heap) (locs : List Loc), W3 true (D, E, d1) A1 M1 H → W3 false (D, E, d2) A2 M2 H → Rel M1 M2 → va_S (oldC s) s.heap H locs → W p l e room_1 s m #[Value.ref b] below meth c H locs 600000 7302250 Q (F0 m 980 ls [])) : W p l e room_1 s m #[Value.ref b] below meth c H locs 600000 7302250 Q (F0 m 352 ls []) := by
  have hK := X.2.1
  have hbA : ¬ oldC s b := Nat.not_le.mpr X.2.2.2.2.2.2.2.1
  have i1 : vp_in (x + 1) L := lwin 1 ⟨by decide, by decide⟩ hi X.2.2.2.2.2.2.2.2
  have i2 : vp_in (x + 2) L := lwin 2 ⟨by decide, by decide⟩ hi X.2.2.2.2.2.2.2.2
  have i3 : vp_in (x + 3) L := lwin 3 ⟨by decide, by decide⟩ hi X.2.2.2.2.2.2.2.2
  have i4 : vp_in (x + 4) L := lwin 4 ⟨by decide, by decide⟩ hi X.2.2.2.2.2.2.2.2
  refine lv_aload_n X.1.1 X.1.2.1 dL_law_352 rfl (lv_at hl 1 rfl) ?_
  refine lv_aload_n X.1.1 X.1.2.1 dL_law_353 rfl (lv_at hl 0 rfl) ?_
  refine lv_iload_n X.1.1 X.1.2.1 dL_law_354 rfl (lv_at hl 3 rfl) ?_
  refine lv_iconst (v := 1) X.1.1 X.1.2.1 dL_law_355 (by decide) ?_
  refine lv_iadd X.1.1 X.1.2.1 dL_law_356 ?_
  refine va_sld X.1.1 X.1.2.1 X.2.2.2.2.2.2.1 X.2.2.2.2.2.2.2.1 hbA hS i1 dL_law_357 ?_
  refine lv_aload_n X.1.1 X.1.2.1 dL_law_358 rfl (lv_at hl 0 rfl) ?_
  refine lv_iload_n X.1.1 X.1.2.1 dL_law_359 rfl (lv_at hl 3 rfl) ?_
  refine lv_iconst (v := 2) X.1.1 X.1.2.1 dL_law_360 (by decide) ?_
  refine lv_iadd X.1.1 X.1.2.1 dL_law_361 ?_
  refine va_sld X.1.1 X.1.2.1 X.2.2.2.2.2.2.1 X.2.2.2.2.2.2.2.1 hbA hS i2 dL_law_362 ?_
  refine lv_aload_n X.1.1 X.1.2.1 dL_law_363 rfl (lv_at hl 0 rfl) ?_
  refine lv_iload_n X.1.1 X.1.2.1 dL_law_364 rfl (lv_at hl 3 rfl) ?_
  refine lv_iconst (v := 3) X.1.1 X.1.2.1 dL_law_365 (by decide) ?_
  refine lv_iadd X.1.1 X.1.2.1 dL_law_366 ?_
  refine va_sld X.1.1 X.1.2.1 X.2.2.2.2.2.2.1 X.2.2.2.2.2.2.2.1 hbA hS i3 dL_law_367 ?_
  refine lv_aload_n X.1.1 X.1.2.1 dL_law_368 rfl (lv_at hl 0 rfl) ?_
  refine lv_iload_n X.1.1 X.1.2.1 dL_law_369 rfl (lv_at hl 3 rfl) ?_
  refine lv_iconst (v := 4) X.1.1 X.1.2.1 dL_law_370 (by decide) ?_
  refine lv_iadd X.1.1 X.1.2.1 dL_law_371 ?_
  refine va_sld X.1.1 X.1.2.1 X.2.2.2.2.2.2.1 X.2.2.2.2.2.2.2.1 hbA hS i4 dL_law_372 ?_
  refine lwW (b := true) (G := (D, E, d1)) [.int (xs (x + 1).toNatClampNeg), .int (xs (x + 2).toNatClampNeg), .int (xs (x + 3).toNatClampNeg), .int (xs (x + 4).toNatClampNeg)] [] X.1 hK (X.e1 hS) h1 h2 (fun q z y => X.2.2.2.2.2.1 q y z) hS X.2.2.2.1 (c_X8_measure l (D, E, d1) A1 M1 ((xs (x + 1).toNatClampNeg)) ((xs (x + 2).toNatClampNeg)) ((xs (x + 3).toNatClampNeg)) ((xs (x + 4).toNatClampNeg))) (cwV 4 X.1.2.2.2.2 gL_law_X8_measure rfl rfl rfl (by decide +kernel) ⟨(Nat.le_of_ble_eq_true rfl), (Nat.le_of_ble_eq_true rfl)⟩) (h1.r1 hK) rfl rfl hl.1 (Nat.le_of_ble_eq_true rfl) dL_law_373 ⟨(Nat.le_of_ble_eq_true rfl), (Nat.le_of_ble_eq_true rfl)⟩ (fun H locs h1 h2 hS => ?_)
  refine lv_aload_n X.1.1 X.1.2.1 dL_law_376 rfl (lv_at hl 2 rfl) ?_
  refine lv_aload_n X.1.1 X.1.2.1 dL_law_377 rfl (lv_at hl 0 rfl) ?_
  refine lv_iload_n X.1.1 X.1.2.1 dL_law_378 rfl (lv_at hl 3 rfl) ?_
  refine lv_iconst (v := 1) X.1.1 X.1.2.1 dL_law_379 (by decide) ?_
  refine lv_iadd X.1.1 X.1.2.1 dL_law_380 ?_
  refine va_sld X.1.1 X.1.2.1 X.2.2.2.2.2.2.1 X.2.2.2.2.2.2.2.1 hbA hS i1 dL_law_381 ?_
  refine lv_aload_n X.1.1 X.1.2.1 dL_law_382 rfl (lv_at hl 0 rfl) ?_
  refine lv_iload_n X.1.1 X.1.2.1 dL_law_383 rfl (lv_at hl 3 rfl) ?_
  refine lv_iconst (v := 2) X.1.1 X.1.2.1 dL_law_384 (by decide) ?_
  refine lv_iadd X.1.1 X.1.2.1 dL_law_385 ?_
  refine va_sld X.1.1 X.1.2.1 X.2.2.2.2.2.2.1 X.2.2.2.2.2.2.2.1 hbA hS i2 dL_law_386 ?_
  refine lv_aload_n X.1.1 X.1.2.1 dL_law_387 rfl (lv_at hl 0 rfl) ?_
  refine lv_iload_n X.1.1 X.1.2.1 dL_law_388 rfl (lv_at hl 3 rfl) ?_
  refine lv_iconst (v := 3) X.1.1 X.1.2.1 dL_law_389 (by decide) ?_
  refine lv_iadd X.1.1 X.1.2.1 dL_law_390 ?_
  refine va_sld X.1.1 X.1.2.1 X.2.2.2.2.2.2.1 X.2.2.2.2.2.2.2.1 hbA hS i3 dL_law_391 ?_
  refine lv_aload_n X.1.1 X.1.2.1 dL_law_392 rfl (lv_at hl 0 rfl) ?_
  refine lv_iload_n X.1.1 X.1.2.1 dL_law_393 rfl (lv_at hl 3 rfl) ?_
  refine lv_iconst (v := 4) X.1.1 X.1.2.1 dL_law_394 (by decide) ?_
  refine lv_iadd X.1.1 X.1.2.1 dL_law_395 ?_
  refine va_sld X.1.1 X.1.2.1 X.2.2.2.2.2.2.1 X.2.2.2.2.2.2.2.1 hbA hS i4 dL_law_396 ?_
  refine lwW (b := false) (G := (D, E, d2)) [.int (xs (x + 1).toNatClampNeg), .int (xs (x + 2).toNatClampNeg), .int (xs (x + 3).toNatClampNeg), .int (xs (x + 4).toNatClampNeg)] [.int (f_X8_measure M1 ((xs (x + 1).toNatClampNeg)) ((xs (x + 2).toNatClampNeg)) ((xs (x + 3).toNatClampNeg)) ((xs (x + 4).toNatClampNeg))).1] X.1 hK ex0 h2 h1 (fun q z y => X.2.2.2.2.2.1 q z y) hS X.2.2.2.2.1 (c_X9_measure l (D, E, d2) A2 M2 ((xs (x + 1).toNatClampNeg)) ((xs (x + 2).toNatClampNeg)) ((xs (x + 3).toNatClampNeg)) ((xs (x + 4).toNatClampNeg))) (cwV 4 X.1.2.2.2.2 gL_law_X9_measure rfl rfl rfl (by decide +kernel) ⟨(Nat.le_of_ble_eq_true rfl), (Nat.le_of_ble_eq_true rfl)⟩) (h2.r2 hK) rfl rfl hl.1 (Nat.le_of_ble_eq_true rfl) dL_law_397 ⟨(Nat.le_of_ble_eq_true rfl), (Nat.le_of_ble_eq_true rfl)⟩ (fun H locs h2 h1 hS => ?_)
  obtain ⟨q1, q2⟩ := eq_measure ((xs (x + 1).toNatClampNeg)) ((xs (x + 2).toNatClampNeg)) ((xs (x + 3).toNatClampNeg)) ((xs (x + 4).toNatClampNeg)) hR
  exact lv_icmp_eq (tgt := 980) X.1.1 X.1.2.1 dL_law_400 (by decide) (fun _ => kk _ _ H locs h1 h2 q2 hS) (fun cz => absurd q1 cz)
set_option maxHeartbeats 4000000 in
set_option maxRecDepth 100000 in
theorem lc_top {p : Program} {e : Env} {s : State} {m : MethodId} {below : List Frame} {meth : Method} {c : Code} {H : Heap} {locs : List Loc} {ls : Array Slot} {Q : State → Prop} (l : Launch) {b L : Nat} {xs : Nat → Int32} {D : va_G} {E : Nat → ClassId} {d1 d2 : Nat → Nat} {A1 A2 : Nat → Prop} {M1 M2 : Mem} {x : Int32} (X : LX p s m c b L xs D E A1 A2) (hi : 0 ≤ x.toInt ∧ x.toInt + 6 ≤ L) (hl : lv_has ls 4 [(0, .ref b), (1, .ref (d1 0)), (2, .ref (d2 0)), (3, .int x)]) (h1 : W3 true (D, E, d1) A1 M1 H) (h2 : W3 false (D, E, d2) A2 M2 H) (hR : Rel M1 M2) (hS : va_S (oldC s) s.heap H locs)
    (kk : ∀ (M1 M2 : Mem) (H : Heap) (locs : List Loc), W3 true (D, E, d1) A1 M1 H → W3 false (D, E, d2) A2 M2 H → Rel M1 M2 → va_S (oldC s) s.heap H locs → W p l e room_1 s m #[Value.ref b] below meth c H locs 600000 7302250 Q (F0 m 980 ls [])) : W p l e room_1 s m #[Value.ref b] below meth c H locs 600000 7302250 Q (F0 m 405 ls []) := by
  have hK := X.2.1
  have hbA : ¬ oldC s b := Nat.not_le.mpr X.2.2.2.2.2.2.2.1
  refine lv_aload_n X.1.1 X.1.2.1 dL_law_405 rfl (lv_at hl 1 rfl) ?_
  refine lwL (b := true) (G := (D, E, d1)) [] [] X.1 hK (X.e1 hS) h1 (c_X8_top l (D, E, d1) A1 M1 ) (cwV 0 X.1.2.2.2.2 gL_law_X8_top rfl rfl rfl (by decide +kernel) ⟨(Nat.le_of_ble_eq_true rfl), (Nat.le_of_ble_eq_true rfl)⟩) (h1.r1 hK) rfl rfl hl.1 (Nat.le_of_ble_eq_true rfl) dL_law_406 ⟨(Nat.le_of_ble_eq_true rfl), (Nat.le_of_ble_eq_true rfl)⟩ ?_
  refine lv_aload_n X.1.1 X.1.2.1 dL_law_409 rfl (lv_at hl 2 rfl) ?_
  refine lwL (b := false) (G := (D, E, d2)) [] [.long (f_X8_top M1 )] X.1 hK ex0 h2 (c_X9_top l (D, E, d2) A2 M2 ) (cwV 0 X.1.2.2.2.2 gL_law_X9_top rfl rfl rfl (by decide +kernel) ⟨(Nat.le_of_ble_eq_true rfl), (Nat.le_of_ble_eq_true rfl)⟩) (h2.r2 hK) rfl rfl hl.1 (Nat.le_of_ble_eq_true rfl) dL_law_410 ⟨(Nat.le_of_ble_eq_true rfl), (Nat.le_of_ble_eq_true rfl)⟩ ?_
  refine W.lcmp X.1.1 X.1.2.1 dL_law_413 ?_
  exact lv_if_eq (tgt := 980) X.1.1 X.1.2.1 dL_law_414 (by decide) (fun _ => kk _ _ H locs h1 h2 hR hS) (fun cz => absurd ((cq_eq _ _).mpr (eq_top  hR)) cz)
set_option maxHeartbeats 4000000 in
set_option maxRecDepth 100000 in
theorem lc_bottom {p : Program} {e : Env} {s : State} {m : MethodId} {below : List Frame} {meth : Method} {c : Code} {H : Heap} {locs : List Loc} {ls : Array Slot} {Q : State → Prop} (l : Launch) {b L : Nat} {xs : Nat → Int32} {D : va_G} {E : Nat → ClassId} {d1 d2 : Nat → Nat} {A1 A2 : Nat → Prop} {M1 M2 : Mem} {x : Int32} (X : LX p s m c b L xs D E A1 A2) (hi : 0 ≤ x.toInt ∧ x.toInt + 6 ≤ L) (hl : lv_has ls 4 [(0, .ref b), (1, .ref (d1 0)), (2, .ref (d2 0)), (3, .int x)]) (h1 : W3 true (D, E, d1) A1 M1 H) (h2 : W3 false (D, E, d2) A2 M2 H) (hR : Rel M1 M2) (hS : va_S (oldC s) s.heap H locs)
    (kk : ∀ (M1 M2 : Mem) (H : Heap) (locs : List Loc), W3 true (D, E, d1) A1 M1 H → W3 false (D, E, d2) A2 M2 H → Rel M1 M2 → va_S (oldC s) s.heap H locs → W p l e room_1 s m #[Value.ref b] below meth c H locs 600000 7302250 Q (F0 m 980 ls [])) : W p l e room_1 s m #[Value.ref b] below meth c H locs 600000 7302250 Q (F0 m 419 ls []) := by
  have hK := X.2.1
  have hbA : ¬ oldC s b := Nat.not_le.mpr X.2.2.2.2.2.2.2.1
  refine lv_aload_n X.1.1 X.1.2.1 dL_law_419 rfl (lv_at hl 1 rfl) ?_
  refine lwL (b := true) (G := (D, E, d1)) [] [] X.1 hK (X.e1 hS) h1 (c_X8_bottom l (D, E, d1) A1 M1 ) (cwV 0 X.1.2.2.2.2 gL_law_X8_bottom rfl rfl rfl (by decide +kernel) ⟨(Nat.le_of_ble_eq_true rfl), (Nat.le_of_ble_eq_true rfl)⟩) (h1.r1 hK) rfl rfl hl.1 (Nat.le_of_ble_eq_true rfl) dL_law_420 ⟨(Nat.le_of_ble_eq_true rfl), (Nat.le_of_ble_eq_true rfl)⟩ ?_
  refine lv_aload_n X.1.1 X.1.2.1 dL_law_423 rfl (lv_at hl 2 rfl) ?_
  refine lwL (b := false) (G := (D, E, d2)) [] [.long (f_X8_bottom M1 )] X.1 hK ex0 h2 (c_X9_bottom l (D, E, d2) A2 M2 ) (cwV 0 X.1.2.2.2.2 gL_law_X9_bottom rfl rfl rfl (by decide +kernel) ⟨(Nat.le_of_ble_eq_true rfl), (Nat.le_of_ble_eq_true rfl)⟩) (h2.r2 hK) rfl rfl hl.1 (Nat.le_of_ble_eq_true rfl) dL_law_424 ⟨(Nat.le_of_ble_eq_true rfl), (Nat.le_of_ble_eq_true rfl)⟩ ?_
  refine W.lcmp X.1.1 X.1.2.1 dL_law_427 ?_
  exact lv_if_eq (tgt := 980) X.1.1 X.1.2.1 dL_law_428 (by decide) (fun _ => kk _ _ H locs h1 h2 hR hS) (fun cz => absurd ((cq_eq _ _).mpr (eq_bottom  hR)) cz)
set_option maxHeartbeats 4000000 in
set_option maxRecDepth 100000 in
theorem lc_gain {p : Program} {e : Env} {s : State} {m : MethodId} {below : List Frame} {meth : Method} {c : Code} {H : Heap} {locs : List Loc} {ls : Array Slot} {Q : State → Prop} (l : Launch) {b L : Nat} {xs : Nat → Int32} {D : va_G} {E : Nat → ClassId} {d1 d2 : Nat → Nat} {A1 A2 : Nat → Prop} {M1 M2 : Mem} {x : Int32} (X : LX p s m c b L xs D E A1 A2) (hi : 0 ≤ x.toInt ∧ x.toInt + 6 ≤ L) (hl : lv_has ls 4 [(0, .ref b), (1, .ref (d1 0)), (2, .ref (d2 0)), (3, .int x)]) (h1 : W3 true (D, E, d1) A1 M1 H) (h2 : W3 false (D, E, d2) A2 M2 H) (hR : Rel M1 M2) (hS : va_S (oldC s) s.heap H locs)
    (kk : ∀ (M1 M2 : Mem) (H : Heap) (locs : List Loc), W3 true (D, E, d1) A1 M1 H → W3 false (D, E, d2) A2 M2 H → Rel M1 M2 → va_S (oldC s) s.heap H locs → W p l e room_1 s m #[Value.ref b] below meth c H locs 600000 7302250 Q (F0 m 980 ls [])) : W p l e room_1 s m #[Value.ref b] below meth c H locs 600000 7302250 Q (F0 m 433 ls []) := by
  have hK := X.2.1
  have hbA : ¬ oldC s b := Nat.not_le.mpr X.2.2.2.2.2.2.2.1
  have i1 : vp_in (x + 1) L := lwin 1 ⟨by decide, by decide⟩ hi X.2.2.2.2.2.2.2.2
  have i2 : vp_in (x + 2) L := lwin 2 ⟨by decide, by decide⟩ hi X.2.2.2.2.2.2.2.2
  have i3 : vp_in (x + 3) L := lwin 3 ⟨by decide, by decide⟩ hi X.2.2.2.2.2.2.2.2
  have i4 : vp_in (x + 4) L := lwin 4 ⟨by decide, by decide⟩ hi X.2.2.2.2.2.2.2.2
  by_cases hz : xs (x + 4).toNatClampNeg = 0
  · have hz2 := hz
    refine lv_aload_n X.1.1 X.1.2.1 dL_law_433 rfl (lv_at hl 1 rfl) ?_
    refine lv_aload_n X.1.1 X.1.2.1 dL_law_434 rfl (lv_at hl 0 rfl) ?_
    refine lv_iload_n X.1.1 X.1.2.1 dL_law_435 rfl (lv_at hl 3 rfl) ?_
    refine lv_iconst (v := 1) X.1.1 X.1.2.1 dL_law_436 (by decide) ?_
    refine lv_iadd X.1.1 X.1.2.1 dL_law_437 ?_
    refine va_sld X.1.1 X.1.2.1 X.2.2.2.2.2.2.1 X.2.2.2.2.2.2.2.1 hbA hS i1 dL_law_438 ?_
    refine lv_aload_n X.1.1 X.1.2.1 dL_law_439 rfl (lv_at hl 0 rfl) ?_
    refine lv_iload_n X.1.1 X.1.2.1 dL_law_440 rfl (lv_at hl 3 rfl) ?_
    refine lv_iconst (v := 2) X.1.1 X.1.2.1 dL_law_441 (by decide) ?_
    refine lv_iadd X.1.1 X.1.2.1 dL_law_442 ?_
    refine va_sld X.1.1 X.1.2.1 X.2.2.2.2.2.2.1 X.2.2.2.2.2.2.2.1 hbA hS i2 dL_law_443 ?_
    refine lv_aload_n X.1.1 X.1.2.1 dL_law_444 rfl (lv_at hl 0 rfl) ?_
    refine lv_iload_n X.1.1 X.1.2.1 dL_law_445 rfl (lv_at hl 3 rfl) ?_
    refine lv_iconst (v := 3) X.1.1 X.1.2.1 dL_law_446 (by decide) ?_
    refine lv_iadd X.1.1 X.1.2.1 dL_law_447 ?_
    refine va_sld X.1.1 X.1.2.1 X.2.2.2.2.2.2.1 X.2.2.2.2.2.2.2.1 hbA hS i3 dL_law_448 ?_
    refine lv_aload_n X.1.1 X.1.2.1 dL_law_449 rfl (lv_at hl 0 rfl) ?_
    refine lv_iload_n X.1.1 X.1.2.1 dL_law_450 rfl (lv_at hl 3 rfl) ?_
    refine lv_iconst (v := 4) X.1.1 X.1.2.1 dL_law_451 (by decide) ?_
    refine lv_iadd X.1.1 X.1.2.1 dL_law_452 ?_
    refine va_sld X.1.1 X.1.2.1 X.2.2.2.2.2.2.1 X.2.2.2.2.2.2.2.1 hbA hS i4 dL_law_453 ?_
    refine lv_if_eq (tgt := 461) X.1.1 X.1.2.1 dL_law_454 (by decide) (fun _ => ?_) (fun cz => absurd hz cz)
    refine lv_iconst (v := 0) X.1.1 X.1.2.1 dL_law_461 (by decide) ?_
    refine lwL (b := true) (G := (D, E, d1)) [.int (xs (x + 1).toNatClampNeg), .int (xs (x + 2).toNatClampNeg), .int (xs (x + 3).toNatClampNeg), .int 0] [] X.1 hK (X.e1 hS) h1 (c_X8_gain l (D, E, d1) A1 M1 ((xs (x + 1).toNatClampNeg)) ((xs (x + 2).toNatClampNeg)) ((xs (x + 3).toNatClampNeg)) 0) (cwV 4 X.1.2.2.2.2 gL_law_X8_gain rfl rfl rfl (by decide +kernel) ⟨(Nat.le_of_ble_eq_true rfl), (Nat.le_of_ble_eq_true rfl)⟩) (h1.r1 hK) rfl rfl hl.1 (Nat.le_of_ble_eq_true rfl) dL_law_462 ⟨(Nat.le_of_ble_eq_true rfl), (Nat.le_of_ble_eq_true rfl)⟩ ?_
    refine lv_aload_n X.1.1 X.1.2.1 dL_law_465 rfl (lv_at hl 2 rfl) ?_
    refine lv_aload_n X.1.1 X.1.2.1 dL_law_466 rfl (lv_at hl 0 rfl) ?_
    refine lv_iload_n X.1.1 X.1.2.1 dL_law_467 rfl (lv_at hl 3 rfl) ?_
    refine lv_iconst (v := 1) X.1.1 X.1.2.1 dL_law_468 (by decide) ?_
    refine lv_iadd X.1.1 X.1.2.1 dL_law_469 ?_
    refine va_sld X.1.1 X.1.2.1 X.2.2.2.2.2.2.1 X.2.2.2.2.2.2.2.1 hbA hS i1 dL_law_470 ?_
    refine lv_aload_n X.1.1 X.1.2.1 dL_law_471 rfl (lv_at hl 0 rfl) ?_
    refine lv_iload_n X.1.1 X.1.2.1 dL_law_472 rfl (lv_at hl 3 rfl) ?_
    refine lv_iconst (v := 2) X.1.1 X.1.2.1 dL_law_473 (by decide) ?_
    refine lv_iadd X.1.1 X.1.2.1 dL_law_474 ?_
    refine va_sld X.1.1 X.1.2.1 X.2.2.2.2.2.2.1 X.2.2.2.2.2.2.2.1 hbA hS i2 dL_law_475 ?_
    refine lv_aload_n X.1.1 X.1.2.1 dL_law_476 rfl (lv_at hl 0 rfl) ?_
    refine lv_iload_n X.1.1 X.1.2.1 dL_law_477 rfl (lv_at hl 3 rfl) ?_
    refine lv_iconst (v := 3) X.1.1 X.1.2.1 dL_law_478 (by decide) ?_
    refine lv_iadd X.1.1 X.1.2.1 dL_law_479 ?_
    refine va_sld X.1.1 X.1.2.1 X.2.2.2.2.2.2.1 X.2.2.2.2.2.2.2.1 hbA hS i3 dL_law_480 ?_
    refine lv_aload_n X.1.1 X.1.2.1 dL_law_481 rfl (lv_at hl 0 rfl) ?_
    refine lv_iload_n X.1.1 X.1.2.1 dL_law_482 rfl (lv_at hl 3 rfl) ?_
    refine lv_iconst (v := 4) X.1.1 X.1.2.1 dL_law_483 (by decide) ?_
    refine lv_iadd X.1.1 X.1.2.1 dL_law_484 ?_
    refine va_sld X.1.1 X.1.2.1 X.2.2.2.2.2.2.1 X.2.2.2.2.2.2.2.1 hbA hS i4 dL_law_485 ?_
    refine lv_if_eq (tgt := 493) X.1.1 X.1.2.1 dL_law_486 (by decide) (fun _ => ?_) (fun cz => absurd hz cz)
    refine lv_iconst (v := 0) X.1.1 X.1.2.1 dL_law_493 (by decide) ?_
    refine lwL (b := false) (G := (D, E, d2)) [.int (xs (x + 1).toNatClampNeg), .int (xs (x + 2).toNatClampNeg), .int (xs (x + 3).toNatClampNeg), .int 0] [.long (f_X8_gain M1 ((xs (x + 1).toNatClampNeg)) ((xs (x + 2).toNatClampNeg)) ((xs (x + 3).toNatClampNeg)) 0)] X.1 hK ex0 h2 (c_X9_gain l (D, E, d2) A2 M2 ((xs (x + 1).toNatClampNeg)) ((xs (x + 2).toNatClampNeg)) ((xs (x + 3).toNatClampNeg)) 0) (cwV 4 X.1.2.2.2.2 gL_law_X9_gain rfl rfl rfl (by decide +kernel) ⟨(Nat.le_of_ble_eq_true rfl), (Nat.le_of_ble_eq_true rfl)⟩) (h2.r2 hK) rfl rfl hl.1 (Nat.le_of_ble_eq_true rfl) dL_law_494 ⟨(Nat.le_of_ble_eq_true rfl), (Nat.le_of_ble_eq_true rfl)⟩ ?_
    refine W.lcmp X.1.1 X.1.2.1 dL_law_497 ?_
    exact lv_if_eq (tgt := 980) X.1.1 X.1.2.1 dL_law_498 (by decide) (fun _ => kk _ _ H locs h1 h2 hR hS) (fun cz => absurd ((cq_eq _ _).mpr (eq_gain ((xs (x + 1).toNatClampNeg)) ((xs (x + 2).toNatClampNeg)) ((xs (x + 3).toNatClampNeg)) 0 hR)) cz)
  · have hz2 := hz
    refine lv_aload_n X.1.1 X.1.2.1 dL_law_433 rfl (lv_at hl 1 rfl) ?_
    refine lv_aload_n X.1.1 X.1.2.1 dL_law_434 rfl (lv_at hl 0 rfl) ?_
    refine lv_iload_n X.1.1 X.1.2.1 dL_law_435 rfl (lv_at hl 3 rfl) ?_
    refine lv_iconst (v := 1) X.1.1 X.1.2.1 dL_law_436 (by decide) ?_
    refine lv_iadd X.1.1 X.1.2.1 dL_law_437 ?_
    refine va_sld X.1.1 X.1.2.1 X.2.2.2.2.2.2.1 X.2.2.2.2.2.2.2.1 hbA hS i1 dL_law_438 ?_
    refine lv_aload_n X.1.1 X.1.2.1 dL_law_439 rfl (lv_at hl 0 rfl) ?_
    refine lv_iload_n X.1.1 X.1.2.1 dL_law_440 rfl (lv_at hl 3 rfl) ?_
    refine lv_iconst (v := 2) X.1.1 X.1.2.1 dL_law_441 (by decide) ?_
    refine lv_iadd X.1.1 X.1.2.1 dL_law_442 ?_
    refine va_sld X.1.1 X.1.2.1 X.2.2.2.2.2.2.1 X.2.2.2.2.2.2.2.1 hbA hS i2 dL_law_443 ?_
    refine lv_aload_n X.1.1 X.1.2.1 dL_law_444 rfl (lv_at hl 0 rfl) ?_
    refine lv_iload_n X.1.1 X.1.2.1 dL_law_445 rfl (lv_at hl 3 rfl) ?_
    refine lv_iconst (v := 3) X.1.1 X.1.2.1 dL_law_446 (by decide) ?_
    refine lv_iadd X.1.1 X.1.2.1 dL_law_447 ?_
    refine va_sld X.1.1 X.1.2.1 X.2.2.2.2.2.2.1 X.2.2.2.2.2.2.2.1 hbA hS i3 dL_law_448 ?_
    refine lv_aload_n X.1.1 X.1.2.1 dL_law_449 rfl (lv_at hl 0 rfl) ?_
    refine lv_iload_n X.1.1 X.1.2.1 dL_law_450 rfl (lv_at hl 3 rfl) ?_
    refine lv_iconst (v := 4) X.1.1 X.1.2.1 dL_law_451 (by decide) ?_
    refine lv_iadd X.1.1 X.1.2.1 dL_law_452 ?_
    refine va_sld X.1.1 X.1.2.1 X.2.2.2.2.2.2.1 X.2.2.2.2.2.2.2.1 hbA hS i4 dL_law_453 ?_
    refine lv_if_eq (tgt := 461) X.1.1 X.1.2.1 dL_law_454 (by decide) (fun cz => absurd cz hz) (fun _ => ?_)
    refine lv_iconst (v := 1) X.1.1 X.1.2.1 dL_law_457 (by decide) ?_
    refine lv_goto (tgt := 462) X.1.1 X.1.2.1 dL_law_458 (by decide) ?_
    refine lwL (b := true) (G := (D, E, d1)) [.int (xs (x + 1).toNatClampNeg), .int (xs (x + 2).toNatClampNeg), .int (xs (x + 3).toNatClampNeg), .int 1] [] X.1 hK (X.e1 hS) h1 (c_X8_gain l (D, E, d1) A1 M1 ((xs (x + 1).toNatClampNeg)) ((xs (x + 2).toNatClampNeg)) ((xs (x + 3).toNatClampNeg)) 1) (cwV 4 X.1.2.2.2.2 gL_law_X8_gain rfl rfl rfl (by decide +kernel) ⟨(Nat.le_of_ble_eq_true rfl), (Nat.le_of_ble_eq_true rfl)⟩) (h1.r1 hK) rfl rfl hl.1 (Nat.le_of_ble_eq_true rfl) dL_law_462 ⟨(Nat.le_of_ble_eq_true rfl), (Nat.le_of_ble_eq_true rfl)⟩ ?_
    refine lv_aload_n X.1.1 X.1.2.1 dL_law_465 rfl (lv_at hl 2 rfl) ?_
    refine lv_aload_n X.1.1 X.1.2.1 dL_law_466 rfl (lv_at hl 0 rfl) ?_
    refine lv_iload_n X.1.1 X.1.2.1 dL_law_467 rfl (lv_at hl 3 rfl) ?_
    refine lv_iconst (v := 1) X.1.1 X.1.2.1 dL_law_468 (by decide) ?_
    refine lv_iadd X.1.1 X.1.2.1 dL_law_469 ?_
    refine va_sld X.1.1 X.1.2.1 X.2.2.2.2.2.2.1 X.2.2.2.2.2.2.2.1 hbA hS i1 dL_law_470 ?_
    refine lv_aload_n X.1.1 X.1.2.1 dL_law_471 rfl (lv_at hl 0 rfl) ?_
    refine lv_iload_n X.1.1 X.1.2.1 dL_law_472 rfl (lv_at hl 3 rfl) ?_
    refine lv_iconst (v := 2) X.1.1 X.1.2.1 dL_law_473 (by decide) ?_
    refine lv_iadd X.1.1 X.1.2.1 dL_law_474 ?_
    refine va_sld X.1.1 X.1.2.1 X.2.2.2.2.2.2.1 X.2.2.2.2.2.2.2.1 hbA hS i2 dL_law_475 ?_
    refine lv_aload_n X.1.1 X.1.2.1 dL_law_476 rfl (lv_at hl 0 rfl) ?_
    refine lv_iload_n X.1.1 X.1.2.1 dL_law_477 rfl (lv_at hl 3 rfl) ?_
    refine lv_iconst (v := 3) X.1.1 X.1.2.1 dL_law_478 (by decide) ?_
    refine lv_iadd X.1.1 X.1.2.1 dL_law_479 ?_
    refine va_sld X.1.1 X.1.2.1 X.2.2.2.2.2.2.1 X.2.2.2.2.2.2.2.1 hbA hS i3 dL_law_480 ?_
    refine lv_aload_n X.1.1 X.1.2.1 dL_law_481 rfl (lv_at hl 0 rfl) ?_
    refine lv_iload_n X.1.1 X.1.2.1 dL_law_482 rfl (lv_at hl 3 rfl) ?_
    refine lv_iconst (v := 4) X.1.1 X.1.2.1 dL_law_483 (by decide) ?_
    refine lv_iadd X.1.1 X.1.2.1 dL_law_484 ?_
    refine va_sld X.1.1 X.1.2.1 X.2.2.2.2.2.2.1 X.2.2.2.2.2.2.2.1 hbA hS i4 dL_law_485 ?_
    refine lv_if_eq (tgt := 493) X.1.1 X.1.2.1 dL_law_486 (by decide) (fun cz => absurd cz hz) (fun _ => ?_)
    refine lv_iconst (v := 1) X.1.1 X.1.2.1 dL_law_489 (by decide) ?_
    refine lv_goto (tgt := 494) X.1.1 X.1.2.1 dL_law_490 (by decide) ?_
    refine lwL (b := false) (G := (D, E, d2)) [.int (xs (x + 1).toNatClampNeg), .int (xs (x + 2).toNatClampNeg), .int (xs (x + 3).toNatClampNeg), .int 1] [.long (f_X8_gain M1 ((xs (x + 1).toNatClampNeg)) ((xs (x + 2).toNatClampNeg)) ((xs (x + 3).toNatClampNeg)) 1)] X.1 hK ex0 h2 (c_X9_gain l (D, E, d2) A2 M2 ((xs (x + 1).toNatClampNeg)) ((xs (x + 2).toNatClampNeg)) ((xs (x + 3).toNatClampNeg)) 1) (cwV 4 X.1.2.2.2.2 gL_law_X9_gain rfl rfl rfl (by decide +kernel) ⟨(Nat.le_of_ble_eq_true rfl), (Nat.le_of_ble_eq_true rfl)⟩) (h2.r2 hK) rfl rfl hl.1 (Nat.le_of_ble_eq_true rfl) dL_law_494 ⟨(Nat.le_of_ble_eq_true rfl), (Nat.le_of_ble_eq_true rfl)⟩ ?_
    refine W.lcmp X.1.1 X.1.2.1 dL_law_497 ?_
    exact lv_if_eq (tgt := 980) X.1.1 X.1.2.1 dL_law_498 (by decide) (fun _ => kk _ _ H locs h1 h2 hR hS) (fun cz => absurd ((cq_eq _ _).mpr (eq_gain ((xs (x + 1).toNatClampNeg)) ((xs (x + 2).toNatClampNeg)) ((xs (x + 3).toNatClampNeg)) 1 hR)) cz)
