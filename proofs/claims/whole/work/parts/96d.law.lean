/-! 96d: the law's cases -/
set_option maxHeartbeats 4000000 in
set_option maxRecDepth 100000 in
theorem lc_mean {p : Program} {e : Env} {s : State} {m : MethodId} {below : List Frame} {meth : Method} {c : Code} {H : Heap} {locs : List Loc} {ls : Array Slot} {Q : State → Prop} (l : Launch) {b L : Nat} {xs : Nat → Int32} {D : va_G} {E : Nat → ClassId} {d1 d2 : Nat → Nat} {A1 A2 : Nat → Prop} {M1 M2 : Mem} {x : Int32} (X : LX p s m c b L xs D E A1 A2) (hi : 0 ≤ x.toInt ∧ x.toInt + 6 ≤ L) (hl : lv_has ls 4 [(0, .ref b), (1, .ref (d1 0)), (2, .ref (d2 0)), (3, .int x)]) (h1 : W3 true (D, E, d1) A1 M1 H) (h2 : W3 false (D, E, d2) A2 M2 H) (hR : Rel M1 M2) (hS : va_S (oldC s) s.heap H locs)
    (kk : ∀ (M1 M2 : Mem) (H : Heap) (locs : List Loc), W3 true (D, E, d1) A1 M1 H → W3 false (D, E, d2) A2 M2 H → Rel M1 M2 → va_S (oldC s) s.heap H locs → W p l e room_1 s m #[Value.ref b] below meth c H locs 600000 7302250 Q (F0 m 980 ls [])) : W p l e room_1 s m #[Value.ref b] below meth c H locs 600000 7302250 Q (F0 m 503 ls []) := by
  have hK := X.2.1
  have hbA : ¬ oldC s b := Nat.not_le.mpr X.2.2.2.2.2.2.2.1
  have i1 : vp_in (x + 1) L := lwin 1 ⟨by decide, by decide⟩ hi X.2.2.2.2.2.2.2.2
  have i2 : vp_in (x + 2) L := lwin 2 ⟨by decide, by decide⟩ hi X.2.2.2.2.2.2.2.2
  have i3 : vp_in (x + 3) L := lwin 3 ⟨by decide, by decide⟩ hi X.2.2.2.2.2.2.2.2
  refine lv_aload_n X.1.1 X.1.2.1 dL_law_503 rfl (lv_at hl 1 rfl) ?_
  refine lv_aload_n X.1.1 X.1.2.1 dL_law_504 rfl (lv_at hl 0 rfl) ?_
  refine lv_iload_n X.1.1 X.1.2.1 dL_law_505 rfl (lv_at hl 3 rfl) ?_
  refine lv_iconst (v := 1) X.1.1 X.1.2.1 dL_law_506 (by decide) ?_
  refine lv_iadd X.1.1 X.1.2.1 dL_law_507 ?_
  refine va_sld X.1.1 X.1.2.1 X.2.2.2.2.2.2.1 X.2.2.2.2.2.2.2.1 hbA hS i1 dL_law_508 ?_
  refine lv_aload_n X.1.1 X.1.2.1 dL_law_509 rfl (lv_at hl 0 rfl) ?_
  refine lv_iload_n X.1.1 X.1.2.1 dL_law_510 rfl (lv_at hl 3 rfl) ?_
  refine lv_iconst (v := 2) X.1.1 X.1.2.1 dL_law_511 (by decide) ?_
  refine lv_iadd X.1.1 X.1.2.1 dL_law_512 ?_
  refine va_sld X.1.1 X.1.2.1 X.2.2.2.2.2.2.1 X.2.2.2.2.2.2.2.1 hbA hS i2 dL_law_513 ?_
  refine lv_aload_n X.1.1 X.1.2.1 dL_law_514 rfl (lv_at hl 0 rfl) ?_
  refine lv_iload_n X.1.1 X.1.2.1 dL_law_515 rfl (lv_at hl 3 rfl) ?_
  refine lv_iconst (v := 3) X.1.1 X.1.2.1 dL_law_516 (by decide) ?_
  refine lv_iadd X.1.1 X.1.2.1 dL_law_517 ?_
  refine va_sld X.1.1 X.1.2.1 X.2.2.2.2.2.2.1 X.2.2.2.2.2.2.2.1 hbA hS i3 dL_law_518 ?_
  refine lwW (b := true) (G := (D, E, d1)) [.int (xs (x + 1).toNatClampNeg), .int (xs (x + 2).toNatClampNeg), .int (xs (x + 3).toNatClampNeg)] [] X.1 hK (X.e1 hS) h1 h2 (fun q z y => X.2.2.2.2.2.1 q y z) hS X.2.2.2.1 (c_X8_mean l (D, E, d1) A1 M1 ((xs (x + 1).toNatClampNeg)) ((xs (x + 2).toNatClampNeg)) ((xs (x + 3).toNatClampNeg))) (cwV 3 X.1.2.2.2.2 gL_law_X8_mean rfl rfl rfl (by decide +kernel) ⟨(Nat.le_of_ble_eq_true rfl), (Nat.le_of_ble_eq_true rfl)⟩) (h1.r1 hK) rfl rfl hl.1 (Nat.le_of_ble_eq_true rfl) dL_law_519 ⟨(Nat.le_of_ble_eq_true rfl), (Nat.le_of_ble_eq_true rfl)⟩ (fun H locs h1 h2 hS => ?_)
  refine lv_aload_n X.1.1 X.1.2.1 dL_law_522 rfl (lv_at hl 2 rfl) ?_
  refine lv_aload_n X.1.1 X.1.2.1 dL_law_523 rfl (lv_at hl 0 rfl) ?_
  refine lv_iload_n X.1.1 X.1.2.1 dL_law_524 rfl (lv_at hl 3 rfl) ?_
  refine lv_iconst (v := 1) X.1.1 X.1.2.1 dL_law_525 (by decide) ?_
  refine lv_iadd X.1.1 X.1.2.1 dL_law_526 ?_
  refine va_sld X.1.1 X.1.2.1 X.2.2.2.2.2.2.1 X.2.2.2.2.2.2.2.1 hbA hS i1 dL_law_527 ?_
  refine lv_aload_n X.1.1 X.1.2.1 dL_law_528 rfl (lv_at hl 0 rfl) ?_
  refine lv_iload_n X.1.1 X.1.2.1 dL_law_529 rfl (lv_at hl 3 rfl) ?_
  refine lv_iconst (v := 2) X.1.1 X.1.2.1 dL_law_530 (by decide) ?_
  refine lv_iadd X.1.1 X.1.2.1 dL_law_531 ?_
  refine va_sld X.1.1 X.1.2.1 X.2.2.2.2.2.2.1 X.2.2.2.2.2.2.2.1 hbA hS i2 dL_law_532 ?_
  refine lv_aload_n X.1.1 X.1.2.1 dL_law_533 rfl (lv_at hl 0 rfl) ?_
  refine lv_iload_n X.1.1 X.1.2.1 dL_law_534 rfl (lv_at hl 3 rfl) ?_
  refine lv_iconst (v := 3) X.1.1 X.1.2.1 dL_law_535 (by decide) ?_
  refine lv_iadd X.1.1 X.1.2.1 dL_law_536 ?_
  refine va_sld X.1.1 X.1.2.1 X.2.2.2.2.2.2.1 X.2.2.2.2.2.2.2.1 hbA hS i3 dL_law_537 ?_
  refine lwW (b := false) (G := (D, E, d2)) [.int (xs (x + 1).toNatClampNeg), .int (xs (x + 2).toNatClampNeg), .int (xs (x + 3).toNatClampNeg)] [.int (f_X8_mean M1 ((xs (x + 1).toNatClampNeg)) ((xs (x + 2).toNatClampNeg)) ((xs (x + 3).toNatClampNeg))).1] X.1 hK ex0 h2 h1 (fun q z y => X.2.2.2.2.2.1 q z y) hS X.2.2.2.2.1 (c_X9_mean l (D, E, d2) A2 M2 ((xs (x + 1).toNatClampNeg)) ((xs (x + 2).toNatClampNeg)) ((xs (x + 3).toNatClampNeg))) (cwV 3 X.1.2.2.2.2 gL_law_X9_mean rfl rfl rfl (by decide +kernel) ⟨(Nat.le_of_ble_eq_true rfl), (Nat.le_of_ble_eq_true rfl)⟩) (h2.r2 hK) rfl rfl hl.1 (Nat.le_of_ble_eq_true rfl) dL_law_538 ⟨(Nat.le_of_ble_eq_true rfl), (Nat.le_of_ble_eq_true rfl)⟩ (fun H locs h2 h1 hS => ?_)
  obtain ⟨q1, q2⟩ := eq_mean ((xs (x + 1).toNatClampNeg)) ((xs (x + 2).toNatClampNeg)) ((xs (x + 3).toNatClampNeg)) hR
  exact lv_icmp_eq (tgt := 980) X.1.1 X.1.2.1 dL_law_541 (by decide) (fun _ => kk _ _ H locs h1 h2 q2 hS) (fun cz => absurd q1 cz)
set_option maxHeartbeats 4000000 in
set_option maxRecDepth 100000 in
theorem lc_odds {p : Program} {e : Env} {s : State} {m : MethodId} {below : List Frame} {meth : Method} {c : Code} {H : Heap} {locs : List Loc} {ls : Array Slot} {Q : State → Prop} (l : Launch) {b L : Nat} {xs : Nat → Int32} {D : va_G} {E : Nat → ClassId} {d1 d2 : Nat → Nat} {A1 A2 : Nat → Prop} {M1 M2 : Mem} {x : Int32} (X : LX p s m c b L xs D E A1 A2) (hi : 0 ≤ x.toInt ∧ x.toInt + 6 ≤ L) (hl : lv_has ls 4 [(0, .ref b), (1, .ref (d1 0)), (2, .ref (d2 0)), (3, .int x)]) (h1 : W3 true (D, E, d1) A1 M1 H) (h2 : W3 false (D, E, d2) A2 M2 H) (hR : Rel M1 M2) (hS : va_S (oldC s) s.heap H locs)
    (kk : ∀ (M1 M2 : Mem) (H : Heap) (locs : List Loc), W3 true (D, E, d1) A1 M1 H → W3 false (D, E, d2) A2 M2 H → Rel M1 M2 → va_S (oldC s) s.heap H locs → W p l e room_1 s m #[Value.ref b] below meth c H locs 600000 7302250 Q (F0 m 980 ls [])) : W p l e room_1 s m #[Value.ref b] below meth c H locs 600000 7302250 Q (F0 m 546 ls []) := by
  have hK := X.2.1
  have hbA : ¬ oldC s b := Nat.not_le.mpr X.2.2.2.2.2.2.2.1
  have i1 : vp_in (x + 1) L := lwin 1 ⟨by decide, by decide⟩ hi X.2.2.2.2.2.2.2.2
  have i2 : vp_in (x + 2) L := lwin 2 ⟨by decide, by decide⟩ hi X.2.2.2.2.2.2.2.2
  have i3 : vp_in (x + 3) L := lwin 3 ⟨by decide, by decide⟩ hi X.2.2.2.2.2.2.2.2
  have i4 : vp_in (x + 4) L := lwin 4 ⟨by decide, by decide⟩ hi X.2.2.2.2.2.2.2.2
  refine lv_aload_n X.1.1 X.1.2.1 dL_law_546 rfl (lv_at hl 1 rfl) ?_
  refine lv_aload_n X.1.1 X.1.2.1 dL_law_547 rfl (lv_at hl 0 rfl) ?_
  refine lv_iload_n X.1.1 X.1.2.1 dL_law_548 rfl (lv_at hl 3 rfl) ?_
  refine lv_iconst (v := 1) X.1.1 X.1.2.1 dL_law_549 (by decide) ?_
  refine lv_iadd X.1.1 X.1.2.1 dL_law_550 ?_
  refine va_sld X.1.1 X.1.2.1 X.2.2.2.2.2.2.1 X.2.2.2.2.2.2.2.1 hbA hS i1 dL_law_551 ?_
  refine lv_aload_n X.1.1 X.1.2.1 dL_law_552 rfl (lv_at hl 0 rfl) ?_
  refine lv_iload_n X.1.1 X.1.2.1 dL_law_553 rfl (lv_at hl 3 rfl) ?_
  refine lv_iconst (v := 2) X.1.1 X.1.2.1 dL_law_554 (by decide) ?_
  refine lv_iadd X.1.1 X.1.2.1 dL_law_555 ?_
  refine va_sld X.1.1 X.1.2.1 X.2.2.2.2.2.2.1 X.2.2.2.2.2.2.2.1 hbA hS i2 dL_law_556 ?_
  refine lv_aload_n X.1.1 X.1.2.1 dL_law_557 rfl (lv_at hl 0 rfl) ?_
  refine lv_iload_n X.1.1 X.1.2.1 dL_law_558 rfl (lv_at hl 3 rfl) ?_
  refine lv_iconst (v := 3) X.1.1 X.1.2.1 dL_law_559 (by decide) ?_
  refine lv_iadd X.1.1 X.1.2.1 dL_law_560 ?_
  refine va_sld X.1.1 X.1.2.1 X.2.2.2.2.2.2.1 X.2.2.2.2.2.2.2.1 hbA hS i3 dL_law_561 ?_
  refine lv_aload_n X.1.1 X.1.2.1 dL_law_562 rfl (lv_at hl 0 rfl) ?_
  refine lv_iload_n X.1.1 X.1.2.1 dL_law_563 rfl (lv_at hl 3 rfl) ?_
  refine lv_iconst (v := 4) X.1.1 X.1.2.1 dL_law_564 (by decide) ?_
  refine lv_iadd X.1.1 X.1.2.1 dL_law_565 ?_
  refine va_sld X.1.1 X.1.2.1 X.2.2.2.2.2.2.1 X.2.2.2.2.2.2.2.1 hbA hS i4 dL_law_566 ?_
  refine lwW (b := true) (G := (D, E, d1)) [.int (xs (x + 1).toNatClampNeg), .int (xs (x + 2).toNatClampNeg), .int (xs (x + 3).toNatClampNeg), .int (xs (x + 4).toNatClampNeg)] [] X.1 hK (X.e1 hS) h1 h2 (fun q z y => X.2.2.2.2.2.1 q y z) hS X.2.2.2.1 (c_X8_odds l (D, E, d1) A1 M1 ((xs (x + 1).toNatClampNeg)) ((xs (x + 2).toNatClampNeg)) ((xs (x + 3).toNatClampNeg)) ((xs (x + 4).toNatClampNeg))) (cwV 4 X.1.2.2.2.2 gL_law_X8_odds rfl rfl rfl (by decide +kernel) ⟨(Nat.le_of_ble_eq_true rfl), (Nat.le_of_ble_eq_true rfl)⟩) (h1.r1 hK) rfl rfl hl.1 (Nat.le_of_ble_eq_true rfl) dL_law_567 ⟨(Nat.le_of_ble_eq_true rfl), (Nat.le_of_ble_eq_true rfl)⟩ (fun H locs h1 h2 hS => ?_)
  refine lv_aload_n X.1.1 X.1.2.1 dL_law_570 rfl (lv_at hl 2 rfl) ?_
  refine lv_aload_n X.1.1 X.1.2.1 dL_law_571 rfl (lv_at hl 0 rfl) ?_
  refine lv_iload_n X.1.1 X.1.2.1 dL_law_572 rfl (lv_at hl 3 rfl) ?_
  refine lv_iconst (v := 1) X.1.1 X.1.2.1 dL_law_573 (by decide) ?_
  refine lv_iadd X.1.1 X.1.2.1 dL_law_574 ?_
  refine va_sld X.1.1 X.1.2.1 X.2.2.2.2.2.2.1 X.2.2.2.2.2.2.2.1 hbA hS i1 dL_law_575 ?_
  refine lv_aload_n X.1.1 X.1.2.1 dL_law_576 rfl (lv_at hl 0 rfl) ?_
  refine lv_iload_n X.1.1 X.1.2.1 dL_law_577 rfl (lv_at hl 3 rfl) ?_
  refine lv_iconst (v := 2) X.1.1 X.1.2.1 dL_law_578 (by decide) ?_
  refine lv_iadd X.1.1 X.1.2.1 dL_law_579 ?_
  refine va_sld X.1.1 X.1.2.1 X.2.2.2.2.2.2.1 X.2.2.2.2.2.2.2.1 hbA hS i2 dL_law_580 ?_
  refine lv_aload_n X.1.1 X.1.2.1 dL_law_581 rfl (lv_at hl 0 rfl) ?_
  refine lv_iload_n X.1.1 X.1.2.1 dL_law_582 rfl (lv_at hl 3 rfl) ?_
  refine lv_iconst (v := 3) X.1.1 X.1.2.1 dL_law_583 (by decide) ?_
  refine lv_iadd X.1.1 X.1.2.1 dL_law_584 ?_
  refine va_sld X.1.1 X.1.2.1 X.2.2.2.2.2.2.1 X.2.2.2.2.2.2.2.1 hbA hS i3 dL_law_585 ?_
  refine lv_aload_n X.1.1 X.1.2.1 dL_law_586 rfl (lv_at hl 0 rfl) ?_
  refine lv_iload_n X.1.1 X.1.2.1 dL_law_587 rfl (lv_at hl 3 rfl) ?_
  refine lv_iconst (v := 4) X.1.1 X.1.2.1 dL_law_588 (by decide) ?_
  refine lv_iadd X.1.1 X.1.2.1 dL_law_589 ?_
  refine va_sld X.1.1 X.1.2.1 X.2.2.2.2.2.2.1 X.2.2.2.2.2.2.2.1 hbA hS i4 dL_law_590 ?_
  refine lwW (b := false) (G := (D, E, d2)) [.int (xs (x + 1).toNatClampNeg), .int (xs (x + 2).toNatClampNeg), .int (xs (x + 3).toNatClampNeg), .int (xs (x + 4).toNatClampNeg)] [.int (f_X8_odds M1 ((xs (x + 1).toNatClampNeg)) ((xs (x + 2).toNatClampNeg)) ((xs (x + 3).toNatClampNeg)) ((xs (x + 4).toNatClampNeg))).1] X.1 hK ex0 h2 h1 (fun q z y => X.2.2.2.2.2.1 q z y) hS X.2.2.2.2.1 (c_X9_odds l (D, E, d2) A2 M2 ((xs (x + 1).toNatClampNeg)) ((xs (x + 2).toNatClampNeg)) ((xs (x + 3).toNatClampNeg)) ((xs (x + 4).toNatClampNeg))) (cwV 4 X.1.2.2.2.2 gL_law_X9_odds rfl rfl rfl (by decide +kernel) ⟨(Nat.le_of_ble_eq_true rfl), (Nat.le_of_ble_eq_true rfl)⟩) (h2.r2 hK) rfl rfl hl.1 (Nat.le_of_ble_eq_true rfl) dL_law_591 ⟨(Nat.le_of_ble_eq_true rfl), (Nat.le_of_ble_eq_true rfl)⟩ (fun H locs h2 h1 hS => ?_)
  obtain ⟨q1, q2⟩ := eq_odds ((xs (x + 1).toNatClampNeg)) ((xs (x + 2).toNatClampNeg)) ((xs (x + 3).toNatClampNeg)) ((xs (x + 4).toNatClampNeg)) hR
  exact lv_icmp_eq (tgt := 980) X.1.1 X.1.2.1 dL_law_594 (by decide) (fun _ => kk _ _ H locs h1 h2 q2 hS) (fun cz => absurd q1 cz)
set_option maxHeartbeats 4000000 in
set_option maxRecDepth 100000 in
theorem lc_wins {p : Program} {e : Env} {s : State} {m : MethodId} {below : List Frame} {meth : Method} {c : Code} {H : Heap} {locs : List Loc} {ls : Array Slot} {Q : State → Prop} (l : Launch) {b L : Nat} {xs : Nat → Int32} {D : va_G} {E : Nat → ClassId} {d1 d2 : Nat → Nat} {A1 A2 : Nat → Prop} {M1 M2 : Mem} {x : Int32} (X : LX p s m c b L xs D E A1 A2) (hi : 0 ≤ x.toInt ∧ x.toInt + 6 ≤ L) (hl : lv_has ls 4 [(0, .ref b), (1, .ref (d1 0)), (2, .ref (d2 0)), (3, .int x)]) (h1 : W3 true (D, E, d1) A1 M1 H) (h2 : W3 false (D, E, d2) A2 M2 H) (hR : Rel M1 M2) (hS : va_S (oldC s) s.heap H locs)
    (kk : ∀ (M1 M2 : Mem) (H : Heap) (locs : List Loc), W3 true (D, E, d1) A1 M1 H → W3 false (D, E, d2) A2 M2 H → Rel M1 M2 → va_S (oldC s) s.heap H locs → W p l e room_1 s m #[Value.ref b] below meth c H locs 600000 7302250 Q (F0 m 980 ls [])) : W p l e room_1 s m #[Value.ref b] below meth c H locs 600000 7302250 Q (F0 m 599 ls []) := by
  have hK := X.2.1
  have hbA : ¬ oldC s b := Nat.not_le.mpr X.2.2.2.2.2.2.2.1
  have i1 : vp_in (x + 1) L := lwin 1 ⟨by decide, by decide⟩ hi X.2.2.2.2.2.2.2.2
  have i2 : vp_in (x + 2) L := lwin 2 ⟨by decide, by decide⟩ hi X.2.2.2.2.2.2.2.2
  have i3 : vp_in (x + 3) L := lwin 3 ⟨by decide, by decide⟩ hi X.2.2.2.2.2.2.2.2
  have i4 : vp_in (x + 4) L := lwin 4 ⟨by decide, by decide⟩ hi X.2.2.2.2.2.2.2.2
  have i5 : vp_in (x + 5) L := lwin 5 ⟨by decide, by decide⟩ hi X.2.2.2.2.2.2.2.2
  refine lv_aload_n X.1.1 X.1.2.1 dL_law_599 rfl (lv_at hl 1 rfl) ?_
  refine lv_aload_n X.1.1 X.1.2.1 dL_law_600 rfl (lv_at hl 0 rfl) ?_
  refine lv_iload_n X.1.1 X.1.2.1 dL_law_601 rfl (lv_at hl 3 rfl) ?_
  refine lv_iconst (v := 1) X.1.1 X.1.2.1 dL_law_602 (by decide) ?_
  refine lv_iadd X.1.1 X.1.2.1 dL_law_603 ?_
  refine va_sld X.1.1 X.1.2.1 X.2.2.2.2.2.2.1 X.2.2.2.2.2.2.2.1 hbA hS i1 dL_law_604 ?_
  refine lv_aload_n X.1.1 X.1.2.1 dL_law_605 rfl (lv_at hl 0 rfl) ?_
  refine lv_iload_n X.1.1 X.1.2.1 dL_law_606 rfl (lv_at hl 3 rfl) ?_
  refine lv_iconst (v := 2) X.1.1 X.1.2.1 dL_law_607 (by decide) ?_
  refine lv_iadd X.1.1 X.1.2.1 dL_law_608 ?_
  refine va_sld X.1.1 X.1.2.1 X.2.2.2.2.2.2.1 X.2.2.2.2.2.2.2.1 hbA hS i2 dL_law_609 ?_
  refine lv_aload_n X.1.1 X.1.2.1 dL_law_610 rfl (lv_at hl 0 rfl) ?_
  refine lv_iload_n X.1.1 X.1.2.1 dL_law_611 rfl (lv_at hl 3 rfl) ?_
  refine lv_iconst (v := 3) X.1.1 X.1.2.1 dL_law_612 (by decide) ?_
  refine lv_iadd X.1.1 X.1.2.1 dL_law_613 ?_
  refine va_sld X.1.1 X.1.2.1 X.2.2.2.2.2.2.1 X.2.2.2.2.2.2.2.1 hbA hS i3 dL_law_614 ?_
  refine lv_aload_n X.1.1 X.1.2.1 dL_law_615 rfl (lv_at hl 0 rfl) ?_
  refine lv_iload_n X.1.1 X.1.2.1 dL_law_616 rfl (lv_at hl 3 rfl) ?_
  refine lv_iconst (v := 4) X.1.1 X.1.2.1 dL_law_617 (by decide) ?_
  refine lv_iadd X.1.1 X.1.2.1 dL_law_618 ?_
  refine va_sld X.1.1 X.1.2.1 X.2.2.2.2.2.2.1 X.2.2.2.2.2.2.2.1 hbA hS i4 dL_law_619 ?_
  refine lv_aload_n X.1.1 X.1.2.1 dL_law_620 rfl (lv_at hl 0 rfl) ?_
  refine lv_iload_n X.1.1 X.1.2.1 dL_law_621 rfl (lv_at hl 3 rfl) ?_
  refine lv_iconst (v := 5) X.1.1 X.1.2.1 dL_law_622 (by decide) ?_
  refine lv_iadd X.1.1 X.1.2.1 dL_law_623 ?_
  refine va_sld X.1.1 X.1.2.1 X.2.2.2.2.2.2.1 X.2.2.2.2.2.2.2.1 hbA hS i5 dL_law_624 ?_
  refine lwW (b := true) (G := (D, E, d1)) [.int (xs (x + 1).toNatClampNeg), .int (xs (x + 2).toNatClampNeg), .int (xs (x + 3).toNatClampNeg), .int (xs (x + 4).toNatClampNeg), .int (xs (x + 5).toNatClampNeg)] [] X.1 hK (X.e1 hS) h1 h2 (fun q z y => X.2.2.2.2.2.1 q y z) hS X.2.2.2.1 (c_X8_wins l (D, E, d1) A1 M1 ((xs (x + 1).toNatClampNeg)) ((xs (x + 2).toNatClampNeg)) ((xs (x + 3).toNatClampNeg)) ((xs (x + 4).toNatClampNeg)) ((xs (x + 5).toNatClampNeg))) (cwV 5 X.1.2.2.2.2 gL_law_X8_wins rfl rfl rfl (by decide +kernel) ⟨(Nat.le_of_ble_eq_true rfl), (Nat.le_of_ble_eq_true rfl)⟩) (h1.r1 hK) rfl rfl hl.1 (Nat.le_of_ble_eq_true rfl) dL_law_625 ⟨(Nat.le_of_ble_eq_true rfl), (Nat.le_of_ble_eq_true rfl)⟩ (fun H locs h1 h2 hS => ?_)
  refine lv_aload_n X.1.1 X.1.2.1 dL_law_628 rfl (lv_at hl 2 rfl) ?_
  refine lv_aload_n X.1.1 X.1.2.1 dL_law_629 rfl (lv_at hl 0 rfl) ?_
  refine lv_iload_n X.1.1 X.1.2.1 dL_law_630 rfl (lv_at hl 3 rfl) ?_
  refine lv_iconst (v := 1) X.1.1 X.1.2.1 dL_law_631 (by decide) ?_
  refine lv_iadd X.1.1 X.1.2.1 dL_law_632 ?_
  refine va_sld X.1.1 X.1.2.1 X.2.2.2.2.2.2.1 X.2.2.2.2.2.2.2.1 hbA hS i1 dL_law_633 ?_
  refine lv_aload_n X.1.1 X.1.2.1 dL_law_634 rfl (lv_at hl 0 rfl) ?_
  refine lv_iload_n X.1.1 X.1.2.1 dL_law_635 rfl (lv_at hl 3 rfl) ?_
  refine lv_iconst (v := 2) X.1.1 X.1.2.1 dL_law_636 (by decide) ?_
  refine lv_iadd X.1.1 X.1.2.1 dL_law_637 ?_
  refine va_sld X.1.1 X.1.2.1 X.2.2.2.2.2.2.1 X.2.2.2.2.2.2.2.1 hbA hS i2 dL_law_638 ?_
  refine lv_aload_n X.1.1 X.1.2.1 dL_law_639 rfl (lv_at hl 0 rfl) ?_
  refine lv_iload_n X.1.1 X.1.2.1 dL_law_640 rfl (lv_at hl 3 rfl) ?_
  refine lv_iconst (v := 3) X.1.1 X.1.2.1 dL_law_641 (by decide) ?_
  refine lv_iadd X.1.1 X.1.2.1 dL_law_642 ?_
  refine va_sld X.1.1 X.1.2.1 X.2.2.2.2.2.2.1 X.2.2.2.2.2.2.2.1 hbA hS i3 dL_law_643 ?_
  refine lv_aload_n X.1.1 X.1.2.1 dL_law_644 rfl (lv_at hl 0 rfl) ?_
  refine lv_iload_n X.1.1 X.1.2.1 dL_law_645 rfl (lv_at hl 3 rfl) ?_
  refine lv_iconst (v := 4) X.1.1 X.1.2.1 dL_law_646 (by decide) ?_
  refine lv_iadd X.1.1 X.1.2.1 dL_law_647 ?_
  refine va_sld X.1.1 X.1.2.1 X.2.2.2.2.2.2.1 X.2.2.2.2.2.2.2.1 hbA hS i4 dL_law_648 ?_
  refine lv_aload_n X.1.1 X.1.2.1 dL_law_649 rfl (lv_at hl 0 rfl) ?_
  refine lv_iload_n X.1.1 X.1.2.1 dL_law_650 rfl (lv_at hl 3 rfl) ?_
  refine lv_iconst (v := 5) X.1.1 X.1.2.1 dL_law_651 (by decide) ?_
  refine lv_iadd X.1.1 X.1.2.1 dL_law_652 ?_
  refine va_sld X.1.1 X.1.2.1 X.2.2.2.2.2.2.1 X.2.2.2.2.2.2.2.1 hbA hS i5 dL_law_653 ?_
  refine lwW (b := false) (G := (D, E, d2)) [.int (xs (x + 1).toNatClampNeg), .int (xs (x + 2).toNatClampNeg), .int (xs (x + 3).toNatClampNeg), .int (xs (x + 4).toNatClampNeg), .int (xs (x + 5).toNatClampNeg)] [.int (f_X8_wins M1 ((xs (x + 1).toNatClampNeg)) ((xs (x + 2).toNatClampNeg)) ((xs (x + 3).toNatClampNeg)) ((xs (x + 4).toNatClampNeg)) ((xs (x + 5).toNatClampNeg))).1] X.1 hK ex0 h2 h1 (fun q z y => X.2.2.2.2.2.1 q z y) hS X.2.2.2.2.1 (c_X9_wins l (D, E, d2) A2 M2 ((xs (x + 1).toNatClampNeg)) ((xs (x + 2).toNatClampNeg)) ((xs (x + 3).toNatClampNeg)) ((xs (x + 4).toNatClampNeg)) ((xs (x + 5).toNatClampNeg))) (cwV 5 X.1.2.2.2.2 gL_law_X9_wins rfl rfl rfl (by decide +kernel) ⟨(Nat.le_of_ble_eq_true rfl), (Nat.le_of_ble_eq_true rfl)⟩) (h2.r2 hK) rfl rfl hl.1 (Nat.le_of_ble_eq_true rfl) dL_law_654 ⟨(Nat.le_of_ble_eq_true rfl), (Nat.le_of_ble_eq_true rfl)⟩ (fun H locs h2 h1 hS => ?_)
  obtain ⟨q1, q2⟩ := eq_wins ((xs (x + 1).toNatClampNeg)) ((xs (x + 2).toNatClampNeg)) ((xs (x + 3).toNatClampNeg)) ((xs (x + 4).toNatClampNeg)) ((xs (x + 5).toNatClampNeg)) hR
  exact lv_icmp_eq (tgt := 980) X.1.1 X.1.2.1 dL_law_657 (by decide) (fun _ => kk _ _ H locs h1 h2 q2 hS) (fun cz => absurd q1 cz)
set_option maxHeartbeats 4000000 in
set_option maxRecDepth 100000 in
theorem lc_likeness {p : Program} {e : Env} {s : State} {m : MethodId} {below : List Frame} {meth : Method} {c : Code} {H : Heap} {locs : List Loc} {ls : Array Slot} {Q : State → Prop} (l : Launch) {b L : Nat} {xs : Nat → Int32} {D : va_G} {E : Nat → ClassId} {d1 d2 : Nat → Nat} {A1 A2 : Nat → Prop} {M1 M2 : Mem} {x : Int32} (X : LX p s m c b L xs D E A1 A2) (hi : 0 ≤ x.toInt ∧ x.toInt + 6 ≤ L) (hl : lv_has ls 4 [(0, .ref b), (1, .ref (d1 0)), (2, .ref (d2 0)), (3, .int x)]) (h1 : W3 true (D, E, d1) A1 M1 H) (h2 : W3 false (D, E, d2) A2 M2 H) (hR : Rel M1 M2) (hS : va_S (oldC s) s.heap H locs)
    (kk : ∀ (M1 M2 : Mem) (H : Heap) (locs : List Loc), W3 true (D, E, d1) A1 M1 H → W3 false (D, E, d2) A2 M2 H → Rel M1 M2 → va_S (oldC s) s.heap H locs → W p l e room_1 s m #[Value.ref b] below meth c H locs 600000 7302250 Q (F0 m 980 ls [])) : W p l e room_1 s m #[Value.ref b] below meth c H locs 600000 7302250 Q (F0 m 662 ls []) := by
  have hK := X.2.1
  have hbA : ¬ oldC s b := Nat.not_le.mpr X.2.2.2.2.2.2.2.1
  have i1 : vp_in (x + 1) L := lwin 1 ⟨by decide, by decide⟩ hi X.2.2.2.2.2.2.2.2
  have i2 : vp_in (x + 2) L := lwin 2 ⟨by decide, by decide⟩ hi X.2.2.2.2.2.2.2.2
  have i3 : vp_in (x + 3) L := lwin 3 ⟨by decide, by decide⟩ hi X.2.2.2.2.2.2.2.2
  refine lv_aload_n X.1.1 X.1.2.1 dL_law_662 rfl (lv_at hl 1 rfl) ?_
  refine lv_aload_n X.1.1 X.1.2.1 dL_law_663 rfl (lv_at hl 0 rfl) ?_
  refine lv_iload_n X.1.1 X.1.2.1 dL_law_664 rfl (lv_at hl 3 rfl) ?_
  refine lv_iconst (v := 1) X.1.1 X.1.2.1 dL_law_665 (by decide) ?_
  refine lv_iadd X.1.1 X.1.2.1 dL_law_666 ?_
  refine va_sld X.1.1 X.1.2.1 X.2.2.2.2.2.2.1 X.2.2.2.2.2.2.2.1 hbA hS i1 dL_law_667 ?_
  refine lv_aload_n X.1.1 X.1.2.1 dL_law_668 rfl (lv_at hl 0 rfl) ?_
  refine lv_iload_n X.1.1 X.1.2.1 dL_law_669 rfl (lv_at hl 3 rfl) ?_
  refine lv_iconst (v := 2) X.1.1 X.1.2.1 dL_law_670 (by decide) ?_
  refine lv_iadd X.1.1 X.1.2.1 dL_law_671 ?_
  refine va_sld X.1.1 X.1.2.1 X.2.2.2.2.2.2.1 X.2.2.2.2.2.2.2.1 hbA hS i2 dL_law_672 ?_
  refine lv_aload_n X.1.1 X.1.2.1 dL_law_673 rfl (lv_at hl 0 rfl) ?_
  refine lv_iload_n X.1.1 X.1.2.1 dL_law_674 rfl (lv_at hl 3 rfl) ?_
  refine lv_iconst (v := 3) X.1.1 X.1.2.1 dL_law_675 (by decide) ?_
  refine lv_iadd X.1.1 X.1.2.1 dL_law_676 ?_
  refine va_sld X.1.1 X.1.2.1 X.2.2.2.2.2.2.1 X.2.2.2.2.2.2.2.1 hbA hS i3 dL_law_677 ?_
  refine lwW (b := true) (G := (D, E, d1)) [.int (xs (x + 1).toNatClampNeg), .int (xs (x + 2).toNatClampNeg), .int (xs (x + 3).toNatClampNeg)] [] X.1 hK (X.e1 hS) h1 h2 (fun q z y => X.2.2.2.2.2.1 q y z) hS X.2.2.2.1 (c_X8_likeness l (D, E, d1) A1 M1 ((xs (x + 1).toNatClampNeg)) ((xs (x + 2).toNatClampNeg)) ((xs (x + 3).toNatClampNeg))) (cwV 3 X.1.2.2.2.2 gL_law_X8_likeness rfl rfl rfl (by decide +kernel) ⟨(Nat.le_of_ble_eq_true rfl), (Nat.le_of_ble_eq_true rfl)⟩) (h1.r1 hK) rfl rfl hl.1 (Nat.le_of_ble_eq_true rfl) dL_law_678 ⟨(Nat.le_of_ble_eq_true rfl), (Nat.le_of_ble_eq_true rfl)⟩ (fun H locs h1 h2 hS => ?_)
  refine lv_aload_n X.1.1 X.1.2.1 dL_law_681 rfl (lv_at hl 2 rfl) ?_
  refine lv_aload_n X.1.1 X.1.2.1 dL_law_682 rfl (lv_at hl 0 rfl) ?_
  refine lv_iload_n X.1.1 X.1.2.1 dL_law_683 rfl (lv_at hl 3 rfl) ?_
  refine lv_iconst (v := 1) X.1.1 X.1.2.1 dL_law_684 (by decide) ?_
  refine lv_iadd X.1.1 X.1.2.1 dL_law_685 ?_
  refine va_sld X.1.1 X.1.2.1 X.2.2.2.2.2.2.1 X.2.2.2.2.2.2.2.1 hbA hS i1 dL_law_686 ?_
  refine lv_aload_n X.1.1 X.1.2.1 dL_law_687 rfl (lv_at hl 0 rfl) ?_
  refine lv_iload_n X.1.1 X.1.2.1 dL_law_688 rfl (lv_at hl 3 rfl) ?_
  refine lv_iconst (v := 2) X.1.1 X.1.2.1 dL_law_689 (by decide) ?_
  refine lv_iadd X.1.1 X.1.2.1 dL_law_690 ?_
  refine va_sld X.1.1 X.1.2.1 X.2.2.2.2.2.2.1 X.2.2.2.2.2.2.2.1 hbA hS i2 dL_law_691 ?_
  refine lv_aload_n X.1.1 X.1.2.1 dL_law_692 rfl (lv_at hl 0 rfl) ?_
  refine lv_iload_n X.1.1 X.1.2.1 dL_law_693 rfl (lv_at hl 3 rfl) ?_
  refine lv_iconst (v := 3) X.1.1 X.1.2.1 dL_law_694 (by decide) ?_
  refine lv_iadd X.1.1 X.1.2.1 dL_law_695 ?_
  refine va_sld X.1.1 X.1.2.1 X.2.2.2.2.2.2.1 X.2.2.2.2.2.2.2.1 hbA hS i3 dL_law_696 ?_
  refine lwW (b := false) (G := (D, E, d2)) [.int (xs (x + 1).toNatClampNeg), .int (xs (x + 2).toNatClampNeg), .int (xs (x + 3).toNatClampNeg)] [.int (f_X8_likeness M1 ((xs (x + 1).toNatClampNeg)) ((xs (x + 2).toNatClampNeg)) ((xs (x + 3).toNatClampNeg))).1] X.1 hK ex0 h2 h1 (fun q z y => X.2.2.2.2.2.1 q z y) hS X.2.2.2.2.1 (c_X9_likeness l (D, E, d2) A2 M2 ((xs (x + 1).toNatClampNeg)) ((xs (x + 2).toNatClampNeg)) ((xs (x + 3).toNatClampNeg))) (cwV 3 X.1.2.2.2.2 gL_law_X9_likeness rfl rfl rfl (by decide +kernel) ⟨(Nat.le_of_ble_eq_true rfl), (Nat.le_of_ble_eq_true rfl)⟩) (h2.r2 hK) rfl rfl hl.1 (Nat.le_of_ble_eq_true rfl) dL_law_697 ⟨(Nat.le_of_ble_eq_true rfl), (Nat.le_of_ble_eq_true rfl)⟩ (fun H locs h2 h1 hS => ?_)
  obtain ⟨q1, q2⟩ := eq_likeness ((xs (x + 1).toNatClampNeg)) ((xs (x + 2).toNatClampNeg)) ((xs (x + 3).toNatClampNeg)) hR
  exact lv_icmp_eq (tgt := 980) X.1.1 X.1.2.1 dL_law_700 (by decide) (fun _ => kk _ _ H locs h1 h2 q2 hS) (fun cz => absurd q1 cz)
set_option maxHeartbeats 4000000 in
set_option maxRecDepth 100000 in
theorem lc_overlap {p : Program} {e : Env} {s : State} {m : MethodId} {below : List Frame} {meth : Method} {c : Code} {H : Heap} {locs : List Loc} {ls : Array Slot} {Q : State → Prop} (l : Launch) {b L : Nat} {xs : Nat → Int32} {D : va_G} {E : Nat → ClassId} {d1 d2 : Nat → Nat} {A1 A2 : Nat → Prop} {M1 M2 : Mem} {x : Int32} (X : LX p s m c b L xs D E A1 A2) (hi : 0 ≤ x.toInt ∧ x.toInt + 6 ≤ L) (hl : lv_has ls 4 [(0, .ref b), (1, .ref (d1 0)), (2, .ref (d2 0)), (3, .int x)]) (h1 : W3 true (D, E, d1) A1 M1 H) (h2 : W3 false (D, E, d2) A2 M2 H) (hR : Rel M1 M2) (hS : va_S (oldC s) s.heap H locs)
    (kk : ∀ (M1 M2 : Mem) (H : Heap) (locs : List Loc), W3 true (D, E, d1) A1 M1 H → W3 false (D, E, d2) A2 M2 H → Rel M1 M2 → va_S (oldC s) s.heap H locs → W p l e room_1 s m #[Value.ref b] below meth c H locs 600000 7302250 Q (F0 m 980 ls [])) : W p l e room_1 s m #[Value.ref b] below meth c H locs 600000 7302250 Q (F0 m 705 ls []) := by
  have hK := X.2.1
  have hbA : ¬ oldC s b := Nat.not_le.mpr X.2.2.2.2.2.2.2.1
  have i1 : vp_in (x + 1) L := lwin 1 ⟨by decide, by decide⟩ hi X.2.2.2.2.2.2.2.2
  have i2 : vp_in (x + 2) L := lwin 2 ⟨by decide, by decide⟩ hi X.2.2.2.2.2.2.2.2
  have i3 : vp_in (x + 3) L := lwin 3 ⟨by decide, by decide⟩ hi X.2.2.2.2.2.2.2.2
  have i4 : vp_in (x + 4) L := lwin 4 ⟨by decide, by decide⟩ hi X.2.2.2.2.2.2.2.2
  refine lv_aload_n X.1.1 X.1.2.1 dL_law_705 rfl (lv_at hl 1 rfl) ?_
  refine lv_aload_n X.1.1 X.1.2.1 dL_law_706 rfl (lv_at hl 0 rfl) ?_
  refine lv_iload_n X.1.1 X.1.2.1 dL_law_707 rfl (lv_at hl 3 rfl) ?_
  refine lv_iconst (v := 1) X.1.1 X.1.2.1 dL_law_708 (by decide) ?_
  refine lv_iadd X.1.1 X.1.2.1 dL_law_709 ?_
  refine va_sld X.1.1 X.1.2.1 X.2.2.2.2.2.2.1 X.2.2.2.2.2.2.2.1 hbA hS i1 dL_law_710 ?_
  refine lv_aload_n X.1.1 X.1.2.1 dL_law_711 rfl (lv_at hl 0 rfl) ?_
  refine lv_iload_n X.1.1 X.1.2.1 dL_law_712 rfl (lv_at hl 3 rfl) ?_
  refine lv_iconst (v := 2) X.1.1 X.1.2.1 dL_law_713 (by decide) ?_
  refine lv_iadd X.1.1 X.1.2.1 dL_law_714 ?_
  refine va_sld X.1.1 X.1.2.1 X.2.2.2.2.2.2.1 X.2.2.2.2.2.2.2.1 hbA hS i2 dL_law_715 ?_
  refine lv_aload_n X.1.1 X.1.2.1 dL_law_716 rfl (lv_at hl 0 rfl) ?_
  refine lv_iload_n X.1.1 X.1.2.1 dL_law_717 rfl (lv_at hl 3 rfl) ?_
  refine lv_iconst (v := 3) X.1.1 X.1.2.1 dL_law_718 (by decide) ?_
  refine lv_iadd X.1.1 X.1.2.1 dL_law_719 ?_
  refine va_sld X.1.1 X.1.2.1 X.2.2.2.2.2.2.1 X.2.2.2.2.2.2.2.1 hbA hS i3 dL_law_720 ?_
  refine lv_aload_n X.1.1 X.1.2.1 dL_law_721 rfl (lv_at hl 0 rfl) ?_
  refine lv_iload_n X.1.1 X.1.2.1 dL_law_722 rfl (lv_at hl 3 rfl) ?_
  refine lv_iconst (v := 4) X.1.1 X.1.2.1 dL_law_723 (by decide) ?_
  refine lv_iadd X.1.1 X.1.2.1 dL_law_724 ?_
  refine va_sld X.1.1 X.1.2.1 X.2.2.2.2.2.2.1 X.2.2.2.2.2.2.2.1 hbA hS i4 dL_law_725 ?_
  refine lwW (b := true) (G := (D, E, d1)) [.int (xs (x + 1).toNatClampNeg), .int (xs (x + 2).toNatClampNeg), .int (xs (x + 3).toNatClampNeg), .int (xs (x + 4).toNatClampNeg)] [] X.1 hK (X.e1 hS) h1 h2 (fun q z y => X.2.2.2.2.2.1 q y z) hS X.2.2.2.1 (c_X8_overlap l (D, E, d1) A1 M1 ((xs (x + 1).toNatClampNeg)) ((xs (x + 2).toNatClampNeg)) ((xs (x + 3).toNatClampNeg)) ((xs (x + 4).toNatClampNeg))) (cwV 4 X.1.2.2.2.2 gL_law_X8_overlap rfl rfl rfl (by decide +kernel) ⟨(Nat.le_of_ble_eq_true rfl), (Nat.le_of_ble_eq_true rfl)⟩) (h1.r1 hK) rfl rfl hl.1 (Nat.le_of_ble_eq_true rfl) dL_law_726 ⟨(Nat.le_of_ble_eq_true rfl), (Nat.le_of_ble_eq_true rfl)⟩ (fun H locs h1 h2 hS => ?_)
  refine lv_aload_n X.1.1 X.1.2.1 dL_law_729 rfl (lv_at hl 2 rfl) ?_
  refine lv_aload_n X.1.1 X.1.2.1 dL_law_730 rfl (lv_at hl 0 rfl) ?_
  refine lv_iload_n X.1.1 X.1.2.1 dL_law_731 rfl (lv_at hl 3 rfl) ?_
  refine lv_iconst (v := 1) X.1.1 X.1.2.1 dL_law_732 (by decide) ?_
  refine lv_iadd X.1.1 X.1.2.1 dL_law_733 ?_
  refine va_sld X.1.1 X.1.2.1 X.2.2.2.2.2.2.1 X.2.2.2.2.2.2.2.1 hbA hS i1 dL_law_734 ?_
  refine lv_aload_n X.1.1 X.1.2.1 dL_law_735 rfl (lv_at hl 0 rfl) ?_
  refine lv_iload_n X.1.1 X.1.2.1 dL_law_736 rfl (lv_at hl 3 rfl) ?_
  refine lv_iconst (v := 2) X.1.1 X.1.2.1 dL_law_737 (by decide) ?_
  refine lv_iadd X.1.1 X.1.2.1 dL_law_738 ?_
  refine va_sld X.1.1 X.1.2.1 X.2.2.2.2.2.2.1 X.2.2.2.2.2.2.2.1 hbA hS i2 dL_law_739 ?_
  refine lv_aload_n X.1.1 X.1.2.1 dL_law_740 rfl (lv_at hl 0 rfl) ?_
  refine lv_iload_n X.1.1 X.1.2.1 dL_law_741 rfl (lv_at hl 3 rfl) ?_
  refine lv_iconst (v := 3) X.1.1 X.1.2.1 dL_law_742 (by decide) ?_
  refine lv_iadd X.1.1 X.1.2.1 dL_law_743 ?_
  refine va_sld X.1.1 X.1.2.1 X.2.2.2.2.2.2.1 X.2.2.2.2.2.2.2.1 hbA hS i3 dL_law_744 ?_
  refine lv_aload_n X.1.1 X.1.2.1 dL_law_745 rfl (lv_at hl 0 rfl) ?_
  refine lv_iload_n X.1.1 X.1.2.1 dL_law_746 rfl (lv_at hl 3 rfl) ?_
  refine lv_iconst (v := 4) X.1.1 X.1.2.1 dL_law_747 (by decide) ?_
  refine lv_iadd X.1.1 X.1.2.1 dL_law_748 ?_
  refine va_sld X.1.1 X.1.2.1 X.2.2.2.2.2.2.1 X.2.2.2.2.2.2.2.1 hbA hS i4 dL_law_749 ?_
  refine lwW (b := false) (G := (D, E, d2)) [.int (xs (x + 1).toNatClampNeg), .int (xs (x + 2).toNatClampNeg), .int (xs (x + 3).toNatClampNeg), .int (xs (x + 4).toNatClampNeg)] [.int (f_X8_overlap M1 ((xs (x + 1).toNatClampNeg)) ((xs (x + 2).toNatClampNeg)) ((xs (x + 3).toNatClampNeg)) ((xs (x + 4).toNatClampNeg))).1] X.1 hK ex0 h2 h1 (fun q z y => X.2.2.2.2.2.1 q z y) hS X.2.2.2.2.1 (c_X9_overlap l (D, E, d2) A2 M2 ((xs (x + 1).toNatClampNeg)) ((xs (x + 2).toNatClampNeg)) ((xs (x + 3).toNatClampNeg)) ((xs (x + 4).toNatClampNeg))) (cwV 4 X.1.2.2.2.2 gL_law_X9_overlap rfl rfl rfl (by decide +kernel) ⟨(Nat.le_of_ble_eq_true rfl), (Nat.le_of_ble_eq_true rfl)⟩) (h2.r2 hK) rfl rfl hl.1 (Nat.le_of_ble_eq_true rfl) dL_law_750 ⟨(Nat.le_of_ble_eq_true rfl), (Nat.le_of_ble_eq_true rfl)⟩ (fun H locs h2 h1 hS => ?_)
  obtain ⟨q1, q2⟩ := eq_overlap ((xs (x + 1).toNatClampNeg)) ((xs (x + 2).toNatClampNeg)) ((xs (x + 3).toNatClampNeg)) ((xs (x + 4).toNatClampNeg)) hR
  exact lv_icmp_eq (tgt := 980) X.1.1 X.1.2.1 dL_law_753 (by decide) (fun _ => kk _ _ H locs h1 h2 q2 hS) (fun cz => absurd q1 cz)
