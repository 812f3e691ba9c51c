/-! 90b: the makers that run straight -/
set_option maxHeartbeats 4000000 in
set_option maxRecDepth 100000 in
/-- Row() -/
theorem c_X7_init (l : Launch) (D : va_G) (E : Nat → ClassId) (h0 : Nat) : Mk l yX7_init wsX7_init { frames := 1, cells := 1, slots := 16, locals := 12 } D E (fun _ => True) [(h0, .inr (4, [.null, .int 0, .int 0]))] [.ref h0] (fun u : Nat => True) (fun u => [(h0, .inr (4, [.ref u, .int 0, .int 0])), (u, .inl (E 0, 16, .inl (fun _ => 0)))]) 1 16 := by
  refine Mk.of (cc := cX7_init) (maxL := 1) (own := RX7) (by decide) rfl rfl (Nat.le_of_ble_eq_true rfl) ?_
  intro p e s m below meth c A X hr hlocks hin hK hX hP hD hA hS ls hl
  have hl : lv_has ls 1 [(0, .ref h0)] := hl
  have hin : meth.name = "<init>" := hin
  have hP : va_P D vwCl [(h0, .inr (4, [.null, .int 0, .int 0]))] s.heap := hP
  have hD : va_D A [(h0, .inr (4, [.null, .int 0, .int 0]))] := hD
  refine lv_aload_n X.1 X.2.1 dX7_init_0 rfl (lv_at hl 0 rfl) ?_
  refine W.objInit X.1 X.2.1 X.2.2.2.1 (X.2.2.2.2 (.methodLink RX7 3 objectInit) (by decide +kernel)) (X.2.2.2.2 (.instanceMethod objectInit) (by decide +kernel)) (X.2.2.2.2 _ (List.mem_of_getElem? (i := 3) rfl)) rfl (by rw [X.2.2.1]; exact hl.1) rfl dX7_init_1 (Nat.le_of_ble_eq_true rfl) (Nat.le_of_ble_eq_true rfl) ?_
  refine W.eq (g2 := F0 m 4 ls []) rfl ?_
  refine lv_aload_n X.1 X.2.1 dX7_init_4 rfl (lv_at hl 0 rfl) ?_
  refine lv_bipush (v := 16) X.1 X.2.1 dX7_init_5 (by decide) ?_
  refine mk_newa 0 X.1 X.2.1 (atype := .int) (X.2.2.2.2 (.arrayClass .int) (by decide +kernel)) (ty := .int) rfl rfl hK hP hD hS hA (n := 16) (N' := 16) (a0 := (16, .inl (fun _ => 0))) (fun _ => rfl) (by decide) (by decide) (by decide +kernel) (Nat.le_of_ble_eq_true rfl) (Nat.le_of_ble_eq_true rfl) dX7_init_7 (fun q1 H hP hD hS => ?_)
  have hP : va_P D vwCl [(h0, .inr (4, [.null, .int 0, .int 0])), (q1, .inl (E 0, 16, .inl (fun _ => 0)))] H := hP
  have hD : va_D A [(h0, .inr (4, [.null, .int 0, .int 0])), (q1, .inl (E 0, 16, .inl (fun _ => 0)))] := hD
  refine va_putF (D := D) (ci := 4) (v := .ref q1) (ty := .array .int) (C := RX7) (T := TX7) (N := 3) X.1 X.2.1 X.2.2.2.2 (by decide +kernel) tyX7 tyX7_ok nmX7 X.2.2.2.1 hK hP hD hS 0 rfl rfl 0 (by decide) (X.2.2.2.2 (.fieldLink RX7 9 "RankBench$Row" "documents" "[I") (by decide +kernel)) (fun _ h9 => h9) rfl hin rfl (by decide +kernel) rfl rfl (Nat.le_of_ble_eq_true rfl) dX7_init_9 (fun H locs hP hD hS => ?_)
  have hP : va_P D vwCl [(h0, .inr (4, [.ref q1, .int 0, .int 0])), (q1, .inl (E 0, 16, .inl (fun _ => 0)))] H := hP
  have hD : va_D A [(h0, .inr (4, [.ref q1, .int 0, .int 0])), (q1, .inl (E 0, 16, .inl (fun _ => 0)))] := hD
  exact mk_ret (q1) X.1 X.2.1 hr hlocks (by first | trivial | rfl) hP hD hS dX7_init_12
set_option maxHeartbeats 4000000 in
set_option maxRecDepth 100000 in
/-- Fraction() -/
theorem c_X1_init (l : Launch) (D : va_G) (E : Nat → ClassId) (h0 : Nat) : Mk l yX1_init wsX1_init { frames := 1, cells := 0, slots := 0, locals := 12 } D E (fun _ => True) [(h0, .inr (1, [.long 0, .long 0]))] [.ref h0] (fun u : Unit => True) (fun u => [(h0, .inr (1, [.long 0, .long 1]))]) 0 0 := by
  refine Mk.of (cc := cX1_init) (maxL := 1) (own := RX1) (by decide) rfl rfl (Nat.le_of_ble_eq_true rfl) ?_
  intro p e s m below meth c A X hr hlocks hin hK hX hP hD hA hS ls hl
  have hl : lv_has ls 1 [(0, .ref h0)] := hl
  have hin : meth.name = "<init>" := hin
  have hP : va_P D vwCl [(h0, .inr (1, [.long 0, .long 0]))] s.heap := hP
  have hD : va_D A [(h0, .inr (1, [.long 0, .long 0]))] := hD
  refine lv_aload_n X.1 X.2.1 dX1_init_0 rfl (lv_at hl 0 rfl) ?_
  refine W.objInit X.1 X.2.1 X.2.2.2.1 (X.2.2.2.2 (.methodLink RX1 1 objectInit) (by decide +kernel)) (X.2.2.2.2 (.instanceMethod objectInit) (by decide +kernel)) (X.2.2.2.2 _ (List.mem_of_getElem? (i := 3) rfl)) rfl (by rw [X.2.2.1]; exact hl.1) rfl dX1_init_1 (Nat.le_of_ble_eq_true rfl) (Nat.le_of_ble_eq_true rfl) ?_
  refine W.eq (g2 := F0 m 4 ls []) rfl ?_
  refine lv_aload_n X.1 X.2.1 dX1_init_4 rfl (lv_at hl 0 rfl) ?_
  refine lv_lconst (v := 1) X.1 X.2.1 dX1_init_5 (by decide) ?_
  refine va_put (D := D) (ci := 1) (v := .long 1) (ty := .long) (C := RX1) (T := TX1) (N := 2) X.1 X.2.1 X.2.2.2.2 (by decide +kernel) tyX1 tyX1_ok nmX1 X.2.2.2.1 hK hP hD hS 0 rfl rfl 1 (by decide) (X.2.2.2.2 (.fieldLink RX1 7 "RankBench$Fraction" "below" "J") (by decide +kernel)) (fun _ h9 => h9) rfl  (by decide +kernel) rfl rfl (Nat.le_of_ble_eq_true rfl) dX1_init_6 (fun H locs hP hD hS => ?_)
  have hP : va_P D vwCl [(h0, .inr (1, [.long 0, .long 1]))] H := hP
  have hD : va_D A [(h0, .inr (1, [.long 0, .long 1]))] := hD
  exact mk_ret (()) X.1 X.2.1 hr hlocks (by first | trivial | rfl) hP hD hS dX1_init_9
set_option maxHeartbeats 4000000 in
set_option maxRecDepth 100000 in
/-- Contest() -/
theorem c_X0_init (l : Launch) (D : va_G) (E : Nat → ClassId) (h0 : Nat) : Mk l yX0_init wsX0_init { frames := 1, cells := 1, slots := 8, locals := 12 } D E (fun _ => True) [(h0, .inr (0, [.null, .long 0, .int 0]))] [.ref h0] (fun u : Nat => True) (fun u => [(h0, .inr (0, [.ref u, .long 1, .int 0])), (u, .inl (E 1, 8, .inr (.inl (fun _ => 0))))]) 1 8 := by
  refine Mk.of (cc := cX0_init) (maxL := 1) (own := RX0) (by decide) rfl rfl (Nat.le_of_ble_eq_true rfl) ?_
  intro p e s m below meth c A X hr hlocks hin hK hX hP hD hA hS ls hl
  have hl : lv_has ls 1 [(0, .ref h0)] := hl
  have hin : meth.name = "<init>" := hin
  have hP : va_P D vwCl [(h0, .inr (0, [.null, .long 0, .int 0]))] s.heap := hP
  have hD : va_D A [(h0, .inr (0, [.null, .long 0, .int 0]))] := hD
  refine lv_aload_n X.1 X.2.1 dX0_init_0 rfl (lv_at hl 0 rfl) ?_
  refine W.objInit X.1 X.2.1 X.2.2.2.1 (X.2.2.2.2 (.methodLink RX0 3 objectInit) (by decide +kernel)) (X.2.2.2.2 (.instanceMethod objectInit) (by decide +kernel)) (X.2.2.2.2 _ (List.mem_of_getElem? (i := 3) rfl)) rfl (by rw [X.2.2.1]; exact hl.1) rfl dX0_init_1 (Nat.le_of_ble_eq_true rfl) (Nat.le_of_ble_eq_true rfl) ?_
  refine W.eq (g2 := F0 m 4 ls []) rfl ?_
  refine lv_aload_n X.1 X.2.1 dX0_init_4 rfl (lv_at hl 0 rfl) ?_
  refine lv_bipush (v := 8) X.1 X.2.1 dX0_init_5 (by decide) ?_
  refine mk_newa 1 X.1 X.2.1 (atype := .long) (X.2.2.2.2 (.arrayClass .long) (by decide +kernel)) (ty := .long) rfl rfl hK hP hD hS hA (n := 8) (N' := 8) (a0 := (8, .inr (.inl (fun _ => 0)))) (fun _ => rfl) (by decide) (by decide) (by decide +kernel) (Nat.le_of_ble_eq_true rfl) (Nat.le_of_ble_eq_true rfl) dX0_init_7 (fun q1 H hP hD hS => ?_)
  have hP : va_P D vwCl [(h0, .inr (0, [.null, .long 0, .int 0])), (q1, .inl (E 1, 8, .inr (.inl (fun _ => 0))))] H := hP
  have hD : va_D A [(h0, .inr (0, [.null, .long 0, .int 0])), (q1, .inl (E 1, 8, .inr (.inl (fun _ => 0))))] := hD
  refine va_putF (D := D) (ci := 0) (v := .ref q1) (ty := .array .long) (C := RX0) (T := TX0) (N := 3) X.1 X.2.1 X.2.2.2.2 (by decide +kernel) tyX0 tyX0_ok nmX0 X.2.2.2.1 hK hP hD hS 0 rfl rfl 0 (by decide) (X.2.2.2.2 (.fieldLink RX0 9 "RankBench$Contest" "differences" "[J") (by decide +kernel)) (fun _ h9 => h9) rfl hin rfl (by decide +kernel) rfl rfl (Nat.le_of_ble_eq_true rfl) dX0_init_9 (fun H locs hP hD hS => ?_)
  have hP : va_P D vwCl [(h0, .inr (0, [.ref q1, .long 0, .int 0])), (q1, .inl (E 1, 8, .inr (.inl (fun _ => 0))))] H := hP
  have hD : va_D A [(h0, .inr (0, [.ref q1, .long 0, .int 0])), (q1, .inl (E 1, 8, .inr (.inl (fun _ => 0))))] := hD
  refine lv_aload_n X.1 X.2.1 dX0_init_12 rfl (lv_at hl 0 rfl) ?_
  refine lv_lconst (v := 1) X.1 X.2.1 dX0_init_13 (by decide) ?_
  refine va_put (D := D) (ci := 0) (v := .long 1) (ty := .long) (C := RX0) (T := TX0) (N := 3) X.1 X.2.1 X.2.2.2.2 (by decide +kernel) tyX0 tyX0_ok nmX0 X.2.2.2.1 hK hP hD hS 0 rfl rfl 1 (by decide) (X.2.2.2.2 (.fieldLink RX0 15 "RankBench$Contest" "common" "J") (by decide +kernel)) (fun _ h9 => h9) rfl  (by decide +kernel) rfl rfl (Nat.le_of_ble_eq_true rfl) dX0_init_14 (fun H locs hP hD hS => ?_)
  have hP : va_P D vwCl [(h0, .inr (0, [.ref q1, .long 1, .int 0])), (q1, .inl (E 1, 8, .inr (.inl (fun _ => 0))))] H := hP
  have hD : va_D A [(h0, .inr (0, [.ref q1, .long 1, .int 0])), (q1, .inl (E 1, 8, .inr (.inl (fun _ => 0))))] := hD
  exact mk_ret (q1) X.1 X.2.1 hr hlocks (by first | trivial | rfl) hP hD hS dX0_init_17
set_option maxHeartbeats 4000000 in
set_option maxRecDepth 100000 in
/-- Mix() -/
theorem c_X4_init (l : Launch) (D : va_G) (E : Nat → ClassId) (h0 : Nat) : Mk l yX4_init wsX4_init { frames := 1, cells := 2, slots := 32, locals := 12 } D E (fun _ => True) [(h0, .inr (2, [.null, .null, .int 0, .int 0, .int 0, .int 0, .int 0]))] [.ref h0] (fun u : Nat × Nat => True) (fun u => [(h0, .inr (2, [.ref u.1, .ref u.2, .int 0, .int 0, .int 0, .int 0, .int 0])), (u.1, .inl (E 0, 16, .inl (fun _ => 0))), (u.2, .inl (E 2, 16, .inl (fun _ => 0)))]) 2 32 := by
  refine Mk.of (cc := cX4_init) (maxL := 1) (own := RX4) (by decide) rfl rfl (Nat.le_of_ble_eq_true rfl) ?_
  intro p e s m below meth c A X hr hlocks hin hK hX hP hD hA hS ls hl
  have hl : lv_has ls 1 [(0, .ref h0)] := hl
  have hin : meth.name = "<init>" := hin
  have hP : va_P D vwCl [(h0, .inr (2, [.null, .null, .int 0, .int 0, .int 0, .int 0, .int 0]))] s.heap := hP
  have hD : va_D A [(h0, .inr (2, [.null, .null, .int 0, .int 0, .int 0, .int 0, .int 0]))] := hD
  refine lv_aload_n X.1 X.2.1 dX4_init_0 rfl (lv_at hl 0 rfl) ?_
  refine W.objInit X.1 X.2.1 X.2.2.2.1 (X.2.2.2.2 (.methodLink RX4 3 objectInit) (by decide +kernel)) (X.2.2.2.2 (.instanceMethod objectInit) (by decide +kernel)) (X.2.2.2.2 _ (List.mem_of_getElem? (i := 3) rfl)) rfl (by rw [X.2.2.1]; exact hl.1) rfl dX4_init_1 (Nat.le_of_ble_eq_true rfl) (Nat.le_of_ble_eq_true rfl) ?_
  refine W.eq (g2 := F0 m 4 ls []) rfl ?_
  refine lv_aload_n X.1 X.2.1 dX4_init_4 rfl (lv_at hl 0 rfl) ?_
  refine lv_bipush (v := 16) X.1 X.2.1 dX4_init_5 (by decide) ?_
  refine mk_newa 0 X.1 X.2.1 (atype := .int) (X.2.2.2.2 (.arrayClass .int) (by decide +kernel)) (ty := .int) rfl rfl hK hP hD hS hA (n := 16) (N' := 16) (a0 := (16, .inl (fun _ => 0))) (fun _ => rfl) (by decide) (by decide) (by decide +kernel) (Nat.le_of_ble_eq_true rfl) (Nat.le_of_ble_eq_true rfl) dX4_init_7 (fun q1 H hP hD hS => ?_)
  have hP : va_P D vwCl [(h0, .inr (2, [.null, .null, .int 0, .int 0, .int 0, .int 0, .int 0])), (q1, .inl (E 0, 16, .inl (fun _ => 0)))] H := hP
  have hD : va_D A [(h0, .inr (2, [.null, .null, .int 0, .int 0, .int 0, .int 0, .int 0])), (q1, .inl (E 0, 16, .inl (fun _ => 0)))] := hD
  refine va_putF (D := D) (ci := 2) (v := .ref q1) (ty := .array .int) (C := RX4) (T := TX4) (N := 7) X.1 X.2.1 X.2.2.2.2 (by decide +kernel) tyX4 tyX4_ok nmX4 X.2.2.2.1 hK hP hD hS 0 rfl rfl 0 (by decide) (X.2.2.2.2 (.fieldLink RX4 9 "RankBench$Mix" "documents" "[I") (by decide +kernel)) (fun _ h9 => h9) rfl hin rfl (by decide +kernel) rfl rfl (Nat.le_of_ble_eq_true rfl) dX4_init_9 (fun H locs hP hD hS => ?_)
  have hP : va_P D vwCl [(h0, .inr (2, [.ref q1, .null, .int 0, .int 0, .int 0, .int 0, .int 0])), (q1, .inl (E 0, 16, .inl (fun _ => 0)))] H := hP
  have hD : va_D A [(h0, .inr (2, [.ref q1, .null, .int 0, .int 0, .int 0, .int 0, .int 0])), (q1, .inl (E 0, 16, .inl (fun _ => 0)))] := hD
  refine lv_aload_n X.1 X.2.1 dX4_init_12 rfl (lv_at hl 0 rfl) ?_
  refine lv_bipush (v := 16) X.1 X.2.1 dX4_init_13 (by decide) ?_
  refine mk_newa 2 X.1 X.2.1 (atype := .boolean) (X.2.2.2.2 (.arrayClass .boolean) (by decide +kernel)) (ty := .boolean) rfl rfl hK hP hD hS hA (n := 16) (N' := 16) (a0 := (16, .inl (fun _ => 0))) (fun _ => rfl) (by decide) (by decide) (by decide +kernel) (Nat.le_of_ble_eq_true rfl) (Nat.le_of_ble_eq_true rfl) dX4_init_15 (fun q2 H hP hD hS => ?_)
  have hP : va_P D vwCl [(h0, .inr (2, [.ref q1, .null, .int 0, .int 0, .int 0, .int 0, .int 0])), (q1, .inl (E 0, 16, .inl (fun _ => 0))), (q2, .inl (E 2, 16, .inl (fun _ => 0)))] H := hP
  have hD : va_D A [(h0, .inr (2, [.ref q1, .null, .int 0, .int 0, .int 0, .int 0, .int 0])), (q1, .inl (E 0, 16, .inl (fun _ => 0))), (q2, .inl (E 2, 16, .inl (fun _ => 0)))] := hD
  refine va_putF (D := D) (ci := 2) (v := .ref q2) (ty := .array .boolean) (C := RX4) (T := TX4) (N := 7) X.1 X.2.1 X.2.2.2.2 (by decide +kernel) tyX4 tyX4_ok nmX4 X.2.2.2.1 hK hP hD hS 0 rfl rfl 1 (by decide) (X.2.2.2.2 (.fieldLink RX4 15 "RankBench$Mix" "fromSecond" "[Z") (by decide +kernel)) (fun _ h9 => h9) rfl hin rfl (by decide +kernel) rfl rfl (Nat.le_of_ble_eq_true rfl) dX4_init_17 (fun H locs hP hD hS => ?_)
  have hP : va_P D vwCl [(h0, .inr (2, [.ref q1, .ref q2, .int 0, .int 0, .int 0, .int 0, .int 0])), (q1, .inl (E 0, 16, .inl (fun _ => 0))), (q2, .inl (E 2, 16, .inl (fun _ => 0)))] H := hP
  have hD : va_D A [(h0, .inr (2, [.ref q1, .ref q2, .int 0, .int 0, .int 0, .int 0, .int 0])), (q1, .inl (E 0, 16, .inl (fun _ => 0))), (q2, .inl (E 2, 16, .inl (fun _ => 0)))] := hD
  exact mk_ret ((q1, q2)) X.1 X.2.1 hr hlocks (by first | trivial | rfl) hP hD hS dX4_init_20
/-- the memories that the two makers leave -/
def M0K : Mem := (fun i _ => if 18 ≤ i then (if i < 26 then -1 else 0) else 0, fun i k => if 2 ≤ i then (if i < 6 then (if k = 1 then 1 else 0) else 0) else 0)
def M0M : Mem := (fun _ _ => 0, fun i k => if i = 0 then (if k = 5 then 1 else if k = 7 then 1 else 0) else 0)
set_option maxHeartbeats 4000000 in
set_option maxRecDepth 100000 in
/-- RankBenchModel() -/
theorem c_X9_init (l : Launch) (D : va_G) (E : Nat → ClassId) (h0 : Nat) : Mk l yX9_init wsX9_init { frames := 1, cells := 8, slots := 816, locals := 12 } D E (fun _ => True) [(h0, .inr (6, [.null, .null, .null, .null, .long 0, .long 0, .long 0, .long 0, .null, .null, .int 0, .null, .null, .int 0]))] [.ref h0] (fun u : Nat → Nat => u 0 = h0) (fun u => wsB false (D, E, u) M0M) 8 816 := by
  refine Mk.of (cc := cX9_init) (maxL := 1) (own := RX9) (by decide) rfl rfl (Nat.le_of_ble_eq_true rfl) ?_
  intro p e s m below meth c A X hr hlocks hin hK hX hP hD hA hS ls hl
  have hl : lv_has ls 1 [(0, .ref h0)] := hl
  have hin : meth.name = "<init>" := hin
  have hP : va_P D vwCl [(h0, .inr (6, [.null, .null, .null, .null, .long 0, .long 0, .long 0, .long 0, .null, .null, .int 0, .null, .null, .int 0]))] s.heap := hP
  have hD : va_D A [(h0, .inr (6, [.null, .null, .null, .null, .long 0, .long 0, .long 0, .long 0, .null, .null, .int 0, .null, .null, .int 0]))] := hD
  refine lv_aload_n X.1 X.2.1 dX9_init_0 rfl (lv_at hl 0 rfl) ?_
  refine W.objInit X.1 X.2.1 X.2.2.2.1 (X.2.2.2.2 (.methodLink RX9 1 objectInit) (by decide +kernel)) (X.2.2.2.2 (.instanceMethod objectInit) (by decide +kernel)) (X.2.2.2.2 _ (List.mem_of_getElem? (i := 3) rfl)) rfl (by rw [X.2.2.1]; exact hl.1) rfl dX9_init_1 (Nat.le_of_ble_eq_true rfl) (Nat.le_of_ble_eq_true rfl) ?_
  refine W.eq (g2 := F0 m 4 ls []) rfl ?_
  refine lv_aload_n X.1 X.2.1 dX9_init_4 rfl (lv_at hl 0 rfl) ?_
  refine lv_sipush (v := 192) X.1 X.2.1 dX9_init_5 (by decide) ?_
  refine mk_newa 0 X.1 X.2.1 (atype := .int) (X.2.2.2.2 (.arrayClass .int) (by decide +kernel)) (ty := .int) rfl rfl hK hP hD hS hA (n := 192) (N' := 192) (a0 := (192, .inl (fun _ => 0))) (fun _ => rfl) (by decide) (by decide) (by decide +kernel) (Nat.le_of_ble_eq_true rfl) (Nat.le_of_ble_eq_true rfl) dX9_init_8 (fun q1 H hP hD hS => ?_)
  have hP : va_P D vwCl [(h0, .inr (6, [.null, .null, .null, .null, .long 0, .long 0, .long 0, .long 0, .null, .null, .int 0, .null, .null, .int 0])), (q1, .inl (E 0, 192, .inl (fun _ => 0)))] H := hP
  have hD : va_D A [(h0, .inr (6, [.null, .null, .null, .null, .long 0, .long 0, .long 0, .long 0, .null, .null, .int 0, .null, .null, .int 0])), (q1, .inl (E 0, 192, .inl (fun _ => 0)))] := hD
  refine va_putF (D := D) (ci := 6) (v := .ref q1) (ty := .array .int) (C := RX9) (T := TX9) (N := 14) X.1 X.2.1 X.2.2.2.2 (by decide +kernel) tyX9 tyX9_ok nmX9 X.2.2.2.1 hK hP hD hS 0 rfl rfl 0 (by decide) (X.2.2.2.2 (.fieldLink RX9 7 "RankBenchModel" "grades" "[I") (by decide +kernel)) (fun _ h9 => h9) rfl hin rfl (by decide +kernel) rfl rfl (Nat.le_of_ble_eq_true rfl) dX9_init_10 (fun H locs hP hD hS => ?_)
  have hP : va_P D vwCl [(h0, .inr (6, [.ref q1, .null, .null, .null, .long 0, .long 0, .long 0, .long 0, .null, .null, .int 0, .null, .null, .int 0])), (q1, .inl (E 0, 192, .inl (fun _ => 0)))] H := hP
  have hD : va_D A [(h0, .inr (6, [.ref q1, .null, .null, .null, .long 0, .long 0, .long 0, .long 0, .null, .null, .int 0, .null, .null, .int 0])), (q1, .inl (E 0, 192, .inl (fun _ => 0)))] := hD
  refine lv_aload_n X.1 X.2.1 dX9_init_13 rfl (lv_at hl 0 rfl) ?_
  refine lv_sipush (v := 512) X.1 X.2.1 dX9_init_14 (by decide) ?_
  refine mk_newa 0 X.1 X.2.1 (atype := .int) (X.2.2.2.2 (.arrayClass .int) (by decide +kernel)) (ty := .int) rfl rfl hK hP hD hS hA (n := 512) (N' := 512) (a0 := (512, .inl (fun _ => 0))) (fun _ => rfl) (by decide) (by decide) (by decide +kernel) (Nat.le_of_ble_eq_true rfl) (Nat.le_of_ble_eq_true rfl) dX9_init_17 (fun q2 H hP hD hS => ?_)
  have hP : va_P D vwCl [(h0, .inr (6, [.ref q1, .null, .null, .null, .long 0, .long 0, .long 0, .long 0, .null, .null, .int 0, .null, .null, .int 0])), (q1, .inl (E 0, 192, .inl (fun _ => 0))), (q2, .inl (E 0, 512, .inl (fun _ => 0)))] H := hP
  have hD : va_D A [(h0, .inr (6, [.ref q1, .null, .null, .null, .long 0, .long 0, .long 0, .long 0, .null, .null, .int 0, .null, .null, .int 0])), (q1, .inl (E 0, 192, .inl (fun _ => 0))), (q2, .inl (E 0, 512, .inl (fun _ => 0)))] := hD
  refine va_putF (D := D) (ci := 6) (v := .ref q2) (ty := .array .int) (C := RX9) (T := TX9) (N := 14) X.1 X.2.1 X.2.2.2.2 (by decide +kernel) tyX9 tyX9_ok nmX9 X.2.2.2.1 hK hP hD hS 0 rfl rfl 1 (by decide) (X.2.2.2.2 (.fieldLink RX9 13 "RankBenchModel" "rows" "[I") (by decide +kernel)) (fun _ h9 => h9) rfl hin rfl (by decide +kernel) rfl rfl (Nat.le_of_ble_eq_true rfl) dX9_init_19 (fun H locs hP hD hS => ?_)
  have hP : va_P D vwCl [(h0, .inr (6, [.ref q1, .ref q2, .null, .null, .long 0, .long 0, .long 0, .long 0, .null, .null, .int 0, .null, .null, .int 0])), (q1, .inl (E 0, 192, .inl (fun _ => 0))), (q2, .inl (E 0, 512, .inl (fun _ => 0)))] H := hP
  have hD : va_D A [(h0, .inr (6, [.ref q1, .ref q2, .null, .null, .long 0, .long 0, .long 0, .long 0, .null, .null, .int 0, .null, .null, .int 0])), (q1, .inl (E 0, 192, .inl (fun _ => 0))), (q2, .inl (E 0, 512, .inl (fun _ => 0)))] := hD
  refine lv_aload_n X.1 X.2.1 dX9_init_22 rfl (lv_at hl 0 rfl) ?_
  refine lv_bipush (v := 32) X.1 X.2.1 dX9_init_23 (by decide) ?_
  refine mk_newa 0 X.1 X.2.1 (atype := .int) (X.2.2.2.2 (.arrayClass .int) (by decide +kernel)) (ty := .int) rfl rfl hK hP hD hS hA (n := 32) (N' := 32) (a0 := (32, .inl (fun _ => 0))) (fun _ => rfl) (by decide) (by decide) (by decide +kernel) (Nat.le_of_ble_eq_true rfl) (Nat.le_of_ble_eq_true rfl) dX9_init_25 (fun q3 H hP hD hS => ?_)
  have hP : va_P D vwCl [(h0, .inr (6, [.ref q1, .ref q2, .null, .null, .long 0, .long 0, .long 0, .long 0, .null, .null, .int 0, .null, .null, .int 0])), (q1, .inl (E 0, 192, .inl (fun _ => 0))), (q2, .inl (E 0, 512, .inl (fun _ => 0))), (q3, .inl (E 0, 32, .inl (fun _ => 0)))] H := hP
  have hD : va_D A [(h0, .inr (6, [.ref q1, .ref q2, .null, .null, .long 0, .long 0, .long 0, .long 0, .null, .null, .int 0, .null, .null, .int 0])), (q1, .inl (E 0, 192, .inl (fun _ => 0))), (q2, .inl (E 0, 512, .inl (fun _ => 0))), (q3, .inl (E 0, 32, .inl (fun _ => 0)))] := hD
  refine va_putF (D := D) (ci := 6) (v := .ref q3) (ty := .array .int) (C := RX9) (T := TX9) (N := 14) X.1 X.2.1 X.2.2.2.2 (by decide +kernel) tyX9 tyX9_ok nmX9 X.2.2.2.1 hK hP hD hS 0 rfl rfl 2 (by decide) (X.2.2.2.2 (.fieldLink RX9 16 "RankBenchModel" "sizes" "[I") (by decide +kernel)) (fun _ h9 => h9) rfl hin rfl (by decide +kernel) rfl rfl (Nat.le_of_ble_eq_true rfl) dX9_init_27 (fun H locs hP hD hS => ?_)
  have hP : va_P D vwCl [(h0, .inr (6, [.ref q1, .ref q2, .ref q3, .null, .long 0, .long 0, .long 0, .long 0, .null, .null, .int 0, .null, .null, .int 0])), (q1, .inl (E 0, 192, .inl (fun _ => 0))), (q2, .inl (E 0, 512, .inl (fun _ => 0))), (q3, .inl (E 0, 32, .inl (fun _ => 0)))] H := hP
  have hD : va_D A [(h0, .inr (6, [.ref q1, .ref q2, .ref q3, .null, .long 0, .long 0, .long 0, .long 0, .null, .null, .int 0, .null, .null, .int 0])), (q1, .inl (E 0, 192, .inl (fun _ => 0))), (q2, .inl (E 0, 512, .inl (fun _ => 0))), (q3, .inl (E 0, 32, .inl (fun _ => 0)))] := hD
  refine lv_aload_n X.1 X.2.1 dX9_init_30 rfl (lv_at hl 0 rfl) ?_
  refine lv_bipush (v := 32) X.1 X.2.1 dX9_init_31 (by decide) ?_
  refine mk_newa 2 X.1 X.2.1 (atype := .boolean) (X.2.2.2.2 (.arrayClass .boolean) (by decide +kernel)) (ty := .boolean) rfl rfl hK hP hD hS hA (n := 32) (N' := 32) (a0 := (32, .inl (fun _ => 0))) (fun _ => rfl) (by decide) (by decide) (by decide +kernel) (Nat.le_of_ble_eq_true rfl) (Nat.le_of_ble_eq_true rfl) dX9_init_33 (fun q4 H hP hD hS => ?_)
  have hP : va_P D vwCl [(h0, .inr (6, [.ref q1, .ref q2, .ref q3, .null, .long 0, .long 0, .long 0, .long 0, .null, .null, .int 0, .null, .null, .int 0])), (q1, .inl (E 0, 192, .inl (fun _ => 0))), (q2, .inl (E 0, 512, .inl (fun _ => 0))), (q3, .inl (E 0, 32, .inl (fun _ => 0))), (q4, .inl (E 2, 32, .inl (fun _ => 0)))] H := hP
  have hD : va_D A [(h0, .inr (6, [.ref q1, .ref q2, .ref q3, .null, .long 0, .long 0, .long 0, .long 0, .null, .null, .int 0, .null, .null, .int 0])), (q1, .inl (E 0, 192, .inl (fun _ => 0))), (q2, .inl (E 0, 512, .inl (fun _ => 0))), (q3, .inl (E 0, 32, .inl (fun _ => 0))), (q4, .inl (E 2, 32, .inl (fun _ => 0)))] := hD
  refine va_putF (D := D) (ci := 6) (v := .ref q4) (ty := .array .boolean) (C := RX9) (T := TX9) (N := 14) X.1 X.2.1 X.2.2.2.2 (by decide +kernel) tyX9 tyX9_ok nmX9 X.2.2.2.1 hK hP hD hS 0 rfl rfl 3 (by decide) (X.2.2.2.2 (.fieldLink RX9 19 "RankBenchModel" "there" "[Z") (by decide +kernel)) (fun _ h9 => h9) rfl hin rfl (by decide +kernel) rfl rfl (Nat.le_of_ble_eq_true rfl) dX9_init_35 (fun H locs hP hD hS => ?_)
  have hP : va_P D vwCl [(h0, .inr (6, [.ref q1, .ref q2, .ref q3, .ref q4, .long 0, .long 0, .long 0, .long 0, .null, .null, .int 0, .null, .null, .int 0])), (q1, .inl (E 0, 192, .inl (fun _ => 0))), (q2, .inl (E 0, 512, .inl (fun _ => 0))), (q3, .inl (E 0, 32, .inl (fun _ => 0))), (q4, .inl (E 2, 32, .inl (fun _ => 0)))] H := hP
  have hD : va_D A [(h0, .inr (6, [.ref q1, .ref q2, .ref q3, .ref q4, .long 0, .long 0, .long 0, .long 0, .null, .null, .int 0, .null, .null, .int 0])), (q1, .inl (E 0, 192, .inl (fun _ => 0))), (q2, .inl (E 0, 512, .inl (fun _ => 0))), (q3, .inl (E 0, 32, .inl (fun _ => 0))), (q4, .inl (E 2, 32, .inl (fun _ => 0)))] := hD
  refine lv_aload_n X.1 X.2.1 dX9_init_38 rfl (lv_at hl 0 rfl) ?_
  refine lv_lconst (v := 1) X.1 X.2.1 dX9_init_39 (by decide) ?_
  refine va_put (D := D) (ci := 6) (v := .long 1) (ty := .long) (C := RX9) (T := TX9) (N := 14) X.1 X.2.1 X.2.2.2.2 (by decide +kernel) tyX9 tyX9_ok nmX9 X.2.2.2.1 hK hP hD hS 0 rfl rfl 5 (by decide) (X.2.2.2.2 (.fieldLink RX9 23 "RankBenchModel" "boardBottom" "J") (by decide +kernel)) (fun _ h9 => h9) rfl  (by decide +kernel) rfl rfl (Nat.le_of_ble_eq_true rfl) dX9_init_40 (fun H locs hP hD hS => ?_)
  have hP : va_P D vwCl [(h0, .inr (6, [.ref q1, .ref q2, .ref q3, .ref q4, .long 0, .long 1, .long 0, .long 0, .null, .null, .int 0, .null, .null, .int 0])), (q1, .inl (E 0, 192, .inl (fun _ => 0))), (q2, .inl (E 0, 512, .inl (fun _ => 0))), (q3, .inl (E 0, 32, .inl (fun _ => 0))), (q4, .inl (E 2, 32, .inl (fun _ => 0)))] H := hP
  have hD : va_D A [(h0, .inr (6, [.ref q1, .ref q2, .ref q3, .ref q4, .long 0, .long 1, .long 0, .long 0, .null, .null, .int 0, .null, .null, .int 0])), (q1, .inl (E 0, 192, .inl (fun _ => 0))), (q2, .inl (E 0, 512, .inl (fun _ => 0))), (q3, .inl (E 0, 32, .inl (fun _ => 0))), (q4, .inl (E 2, 32, .inl (fun _ => 0)))] := hD
  refine lv_aload_n X.1 X.2.1 dX9_init_43 rfl (lv_at hl 0 rfl) ?_
  refine lv_lconst (v := 1) X.1 X.2.1 dX9_init_44 (by decide) ?_
  refine va_put (D := D) (ci := 6) (v := .long 1) (ty := .long) (C := RX9) (T := TX9) (N := 14) X.1 X.2.1 X.2.2.2.2 (by decide +kernel) tyX9 tyX9_ok nmX9 X.2.2.2.1 hK hP hD hS 0 rfl rfl 7 (by decide) (X.2.2.2.2 (.fieldLink RX9 27 "RankBenchModel" "bottom" "J") (by decide +kernel)) (fun _ h9 => h9) rfl  (by decide +kernel) rfl rfl (Nat.le_of_ble_eq_true rfl) dX9_init_45 (fun H locs hP hD hS => ?_)
  have hP : va_P D vwCl [(h0, .inr (6, [.ref q1, .ref q2, .ref q3, .ref q4, .long 0, .long 1, .long 0, .long 1, .null, .null, .int 0, .null, .null, .int 0])), (q1, .inl (E 0, 192, .inl (fun _ => 0))), (q2, .inl (E 0, 512, .inl (fun _ => 0))), (q3, .inl (E 0, 32, .inl (fun _ => 0))), (q4, .inl (E 2, 32, .inl (fun _ => 0)))] H := hP
  have hD : va_D A [(h0, .inr (6, [.ref q1, .ref q2, .ref q3, .ref q4, .long 0, .long 1, .long 0, .long 1, .null, .null, .int 0, .null, .null, .int 0])), (q1, .inl (E 0, 192, .inl (fun _ => 0))), (q2, .inl (E 0, 512, .inl (fun _ => 0))), (q3, .inl (E 0, 32, .inl (fun _ => 0))), (q4, .inl (E 2, 32, .inl (fun _ => 0)))] := hD
  refine lv_aload_n X.1 X.2.1 dX9_init_48 rfl (lv_at hl 0 rfl) ?_
  refine lv_bipush (v := 8) X.1 X.2.1 dX9_init_49 (by decide) ?_
  refine mk_newa 1 X.1 X.2.1 (atype := .long) (X.2.2.2.2 (.arrayClass .long) (by decide +kernel)) (ty := .long) rfl rfl hK hP hD hS hA (n := 8) (N' := 8) (a0 := (8, .inr (.inl (fun _ => 0)))) (fun _ => rfl) (by decide) (by decide) (by decide +kernel) (Nat.le_of_ble_eq_true rfl) (Nat.le_of_ble_eq_true rfl) dX9_init_51 (fun q5 H hP hD hS => ?_)
  have hP : va_P D vwCl [(h0, .inr (6, [.ref q1, .ref q2, .ref q3, .ref q4, .long 0, .long 1, .long 0, .long 1, .null, .null, .int 0, .null, .null, .int 0])), (q1, .inl (E 0, 192, .inl (fun _ => 0))), (q2, .inl (E 0, 512, .inl (fun _ => 0))), (q3, .inl (E 0, 32, .inl (fun _ => 0))), (q4, .inl (E 2, 32, .inl (fun _ => 0))), (q5, .inl (E 1, 8, .inr (.inl (fun _ => 0))))] H := hP
  have hD : va_D A [(h0, .inr (6, [.ref q1, .ref q2, .ref q3, .ref q4, .long 0, .long 1, .long 0, .long 1, .null, .null, .int 0, .null, .null, .int 0])), (q1, .inl (E 0, 192, .inl (fun _ => 0))), (q2, .inl (E 0, 512, .inl (fun _ => 0))), (q3, .inl (E 0, 32, .inl (fun _ => 0))), (q4, .inl (E 2, 32, .inl (fun _ => 0))), (q5, .inl (E 1, 8, .inr (.inl (fun _ => 0))))] := hD
  refine va_putF (D := D) (ci := 6) (v := .ref q5) (ty := .array .long) (C := RX9) (T := TX9) (N := 14) X.1 X.2.1 X.2.2.2.2 (by decide +kernel) tyX9 tyX9_ok nmX9 X.2.2.2.1 hK hP hD hS 0 rfl rfl 8 (by decide) (X.2.2.2.2 (.fieldLink RX9 30 "RankBenchModel" "tops" "[J") (by decide +kernel)) (fun _ h9 => h9) rfl hin rfl (by decide +kernel) rfl rfl (Nat.le_of_ble_eq_true rfl) dX9_init_53 (fun H locs hP hD hS => ?_)
  have hP : va_P D vwCl [(h0, .inr (6, [.ref q1, .ref q2, .ref q3, .ref q4, .long 0, .long 1, .long 0, .long 1, .ref q5, .null, .int 0, .null, .null, .int 0])), (q1, .inl (E 0, 192, .inl (fun _ => 0))), (q2, .inl (E 0, 512, .inl (fun _ => 0))), (q3, .inl (E 0, 32, .inl (fun _ => 0))), (q4, .inl (E 2, 32, .inl (fun _ => 0))), (q5, .inl (E 1, 8, .inr (.inl (fun _ => 0))))] H := hP
  have hD : va_D A [(h0, .inr (6, [.ref q1, .ref q2, .ref q3, .ref q4, .long 0, .long 1, .long 0, .long 1, .ref q5, .null, .int 0, .null, .null, .int 0])), (q1, .inl (E 0, 192, .inl (fun _ => 0))), (q2, .inl (E 0, 512, .inl (fun _ => 0))), (q3, .inl (E 0, 32, .inl (fun _ => 0))), (q4, .inl (E 2, 32, .inl (fun _ => 0))), (q5, .inl (E 1, 8, .inr (.inl (fun _ => 0))))] := hD
  refine lv_aload_n X.1 X.2.1 dX9_init_56 rfl (lv_at hl 0 rfl) ?_
  refine lv_bipush (v := 8) X.1 X.2.1 dX9_init_57 (by decide) ?_
  refine mk_newa 1 X.1 X.2.1 (atype := .long) (X.2.2.2.2 (.arrayClass .long) (by decide +kernel)) (ty := .long) rfl rfl hK hP hD hS hA (n := 8) (N' := 8) (a0 := (8, .inr (.inl (fun _ => 0)))) (fun _ => rfl) (by decide) (by decide) (by decide +kernel) (Nat.le_of_ble_eq_true rfl) (Nat.le_of_ble_eq_true rfl) dX9_init_59 (fun q6 H hP hD hS => ?_)
  have hP : va_P D vwCl [(h0, .inr (6, [.ref q1, .ref q2, .ref q3, .ref q4, .long 0, .long 1, .long 0, .long 1, .ref q5, .null, .int 0, .null, .null, .int 0])), (q1, .inl (E 0, 192, .inl (fun _ => 0))), (q2, .inl (E 0, 512, .inl (fun _ => 0))), (q3, .inl (E 0, 32, .inl (fun _ => 0))), (q4, .inl (E 2, 32, .inl (fun _ => 0))), (q5, .inl (E 1, 8, .inr (.inl (fun _ => 0)))), (q6, .inl (E 1, 8, .inr (.inl (fun _ => 0))))] H := hP
  have hD : va_D A [(h0, .inr (6, [.ref q1, .ref q2, .ref q3, .ref q4, .long 0, .long 1, .long 0, .long 1, .ref q5, .null, .int 0, .null, .null, .int 0])), (q1, .inl (E 0, 192, .inl (fun _ => 0))), (q2, .inl (E 0, 512, .inl (fun _ => 0))), (q3, .inl (E 0, 32, .inl (fun _ => 0))), (q4, .inl (E 2, 32, .inl (fun _ => 0))), (q5, .inl (E 1, 8, .inr (.inl (fun _ => 0)))), (q6, .inl (E 1, 8, .inr (.inl (fun _ => 0))))] := hD
  refine va_putF (D := D) (ci := 6) (v := .ref q6) (ty := .array .long) (C := RX9) (T := TX9) (N := 14) X.1 X.2.1 X.2.2.2.2 (by decide +kernel) tyX9 tyX9_ok nmX9 X.2.2.2.1 hK hP hD hS 0 rfl rfl 9 (by decide) (X.2.2.2.2 (.fieldLink RX9 34 "RankBenchModel" "bottoms" "[J") (by decide +kernel)) (fun _ h9 => h9) rfl hin rfl (by decide +kernel) rfl rfl (Nat.le_of_ble_eq_true rfl) dX9_init_61 (fun H locs hP hD hS => ?_)
  have hP : va_P D vwCl [(h0, .inr (6, [.ref q1, .ref q2, .ref q3, .ref q4, .long 0, .long 1, .long 0, .long 1, .ref q5, .ref q6, .int 0, .null, .null, .int 0])), (q1, .inl (E 0, 192, .inl (fun _ => 0))), (q2, .inl (E 0, 512, .inl (fun _ => 0))), (q3, .inl (E 0, 32, .inl (fun _ => 0))), (q4, .inl (E 2, 32, .inl (fun _ => 0))), (q5, .inl (E 1, 8, .inr (.inl (fun _ => 0)))), (q6, .inl (E 1, 8, .inr (.inl (fun _ => 0))))] H := hP
  have hD : va_D A [(h0, .inr (6, [.ref q1, .ref q2, .ref q3, .ref q4, .long 0, .long 1, .long 0, .long 1, .ref q5, .ref q6, .int 0, .null, .null, .int 0])), (q1, .inl (E 0, 192, .inl (fun _ => 0))), (q2, .inl (E 0, 512, .inl (fun _ => 0))), (q3, .inl (E 0, 32, .inl (fun _ => 0))), (q4, .inl (E 2, 32, .inl (fun _ => 0))), (q5, .inl (E 1, 8, .inr (.inl (fun _ => 0)))), (q6, .inl (E 1, 8, .inr (.inl (fun _ => 0))))] := hD
  refine lv_aload_n X.1 X.2.1 dX9_init_64 rfl (lv_at hl 0 rfl) ?_
  refine lv_bipush (v := 16) X.1 X.2.1 dX9_init_65 (by decide) ?_
  refine mk_newa 0 X.1 X.2.1 (atype := .int) (X.2.2.2.2 (.arrayClass .int) (by decide +kernel)) (ty := .int) rfl rfl hK hP hD hS hA (n := 16) (N' := 16) (a0 := (16, .inl (fun _ => 0))) (fun _ => rfl) (by decide) (by decide) (by decide +kernel) (Nat.le_of_ble_eq_true rfl) (Nat.le_of_ble_eq_true rfl) dX9_init_67 (fun q7 H hP hD hS => ?_)
  have hP : va_P D vwCl [(h0, .inr (6, [.ref q1, .ref q2, .ref q3, .ref q4, .long 0, .long 1, .long 0, .long 1, .ref q5, .ref q6, .int 0, .null, .null, .int 0])), (q1, .inl (E 0, 192, .inl (fun _ => 0))), (q2, .inl (E 0, 512, .inl (fun _ => 0))), (q3, .inl (E 0, 32, .inl (fun _ => 0))), (q4, .inl (E 2, 32, .inl (fun _ => 0))), (q5, .inl (E 1, 8, .inr (.inl (fun _ => 0)))), (q6, .inl (E 1, 8, .inr (.inl (fun _ => 0)))), (q7, .inl (E 0, 16, .inl (fun _ => 0)))] H := hP
  have hD : va_D A [(h0, .inr (6, [.ref q1, .ref q2, .ref q3, .ref q4, .long 0, .long 1, .long 0, .long 1, .ref q5, .ref q6, .int 0, .null, .null, .int 0])), (q1, .inl (E 0, 192, .inl (fun _ => 0))), (q2, .inl (E 0, 512, .inl (fun _ => 0))), (q3, .inl (E 0, 32, .inl (fun _ => 0))), (q4, .inl (E 2, 32, .inl (fun _ => 0))), (q5, .inl (E 1, 8, .inr (.inl (fun _ => 0)))), (q6, .inl (E 1, 8, .inr (.inl (fun _ => 0)))), (q7, .inl (E 0, 16, .inl (fun _ => 0)))] := hD
  refine va_putF (D := D) (ci := 6) (v := .ref q7) (ty := .array .int) (C := RX9) (T := TX9) (N := 14) X.1 X.2.1 X.2.2.2.2 (by decide +kernel) tyX9 tyX9_ok nmX9 X.2.2.2.1 hK hP hD hS 0 rfl rfl 11 (by decide) (X.2.2.2.2 (.fieldLink RX9 37 "RankBenchModel" "laid" "[I") (by decide +kernel)) (fun _ h9 => h9) rfl hin rfl (by decide +kernel) rfl rfl (Nat.le_of_ble_eq_true rfl) dX9_init_69 (fun H locs hP hD hS => ?_)
  have hP : va_P D vwCl [(h0, .inr (6, [.ref q1, .ref q2, .ref q3, .ref q4, .long 0, .long 1, .long 0, .long 1, .ref q5, .ref q6, .int 0, .ref q7, .null, .int 0])), (q1, .inl (E 0, 192, .inl (fun _ => 0))), (q2, .inl (E 0, 512, .inl (fun _ => 0))), (q3, .inl (E 0, 32, .inl (fun _ => 0))), (q4, .inl (E 2, 32, .inl (fun _ => 0))), (q5, .inl (E 1, 8, .inr (.inl (fun _ => 0)))), (q6, .inl (E 1, 8, .inr (.inl (fun _ => 0)))), (q7, .inl (E 0, 16, .inl (fun _ => 0)))] H := hP
  have hD : va_D A [(h0, .inr (6, [.ref q1, .ref q2, .ref q3, .ref q4, .long 0, .long 1, .long 0, .long 1, .ref q5, .ref q6, .int 0, .ref q7, .null, .int 0])), (q1, .inl (E 0, 192, .inl (fun _ => 0))), (q2, .inl (E 0, 512, .inl (fun _ => 0))), (q3, .inl (E 0, 32, .inl (fun _ => 0))), (q4, .inl (E 2, 32, .inl (fun _ => 0))), (q5, .inl (E 1, 8, .inr (.inl (fun _ => 0)))), (q6, .inl (E 1, 8, .inr (.inl (fun _ => 0)))), (q7, .inl (E 0, 16, .inl (fun _ => 0)))] := hD
  refine lv_aload_n X.1 X.2.1 dX9_init_72 rfl (lv_at hl 0 rfl) ?_
  refine lv_bipush (v := 16) X.1 X.2.1 dX9_init_73 (by decide) ?_
  refine mk_newa 2 X.1 X.2.1 (atype := .boolean) (X.2.2.2.2 (.arrayClass .boolean) (by decide +kernel)) (ty := .boolean) rfl rfl hK hP hD hS hA (n := 16) (N' := 16) (a0 := (16, .inl (fun _ => 0))) (fun _ => rfl) (by decide) (by decide) (by decide +kernel) (Nat.le_of_ble_eq_true rfl) (Nat.le_of_ble_eq_true rfl) dX9_init_75 (fun q8 H hP hD hS => ?_)
  have hP : va_P D vwCl [(h0, .inr (6, [.ref q1, .ref q2, .ref q3, .ref q4, .long 0, .long 1, .long 0, .long 1, .ref q5, .ref q6, .int 0, .ref q7, .null, .int 0])), (q1, .inl (E 0, 192, .inl (fun _ => 0))), (q2, .inl (E 0, 512, .inl (fun _ => 0))), (q3, .inl (E 0, 32, .inl (fun _ => 0))), (q4, .inl (E 2, 32, .inl (fun _ => 0))), (q5, .inl (E 1, 8, .inr (.inl (fun _ => 0)))), (q6, .inl (E 1, 8, .inr (.inl (fun _ => 0)))), (q7, .inl (E 0, 16, .inl (fun _ => 0))), (q8, .inl (E 2, 16, .inl (fun _ => 0)))] H := hP
  have hD : va_D A [(h0, .inr (6, [.ref q1, .ref q2, .ref q3, .ref q4, .long 0, .long 1, .long 0, .long 1, .ref q5, .ref q6, .int 0, .ref q7, .null, .int 0])), (q1, .inl (E 0, 192, .inl (fun _ => 0))), (q2, .inl (E 0, 512, .inl (fun _ => 0))), (q3, .inl (E 0, 32, .inl (fun _ => 0))), (q4, .inl (E 2, 32, .inl (fun _ => 0))), (q5, .inl (E 1, 8, .inr (.inl (fun _ => 0)))), (q6, .inl (E 1, 8, .inr (.inl (fun _ => 0)))), (q7, .inl (E 0, 16, .inl (fun _ => 0))), (q8, .inl (E 2, 16, .inl (fun _ => 0)))] := hD
  refine va_putF (D := D) (ci := 6) (v := .ref q8) (ty := .array .boolean) (C := RX9) (T := TX9) (N := 14) X.1 X.2.1 X.2.2.2.2 (by decide +kernel) tyX9 tyX9_ok nmX9 X.2.2.2.1 hK hP hD hS 0 rfl rfl 12 (by decide) (X.2.2.2.2 (.fieldLink RX9 40 "RankBenchModel" "bySecond" "[Z") (by decide +kernel)) (fun _ h9 => h9) rfl hin rfl (by decide +kernel) rfl rfl (Nat.le_of_ble_eq_true rfl) dX9_init_77 (fun H locs hP hD hS => ?_)
  have hP : va_P D vwCl [(h0, .inr (6, [.ref q1, .ref q2, .ref q3, .ref q4, .long 0, .long 1, .long 0, .long 1, .ref q5, .ref q6, .int 0, .ref q7, .ref q8, .int 0])), (q1, .inl (E 0, 192, .inl (fun _ => 0))), (q2, .inl (E 0, 512, .inl (fun _ => 0))), (q3, .inl (E 0, 32, .inl (fun _ => 0))), (q4, .inl (E 2, 32, .inl (fun _ => 0))), (q5, .inl (E 1, 8, .inr (.inl (fun _ => 0)))), (q6, .inl (E 1, 8, .inr (.inl (fun _ => 0)))), (q7, .inl (E 0, 16, .inl (fun _ => 0))), (q8, .inl (E 2, 16, .inl (fun _ => 0)))] H := hP
  have hD : va_D A [(h0, .inr (6, [.ref q1, .ref q2, .ref q3, .ref q4, .long 0, .long 1, .long 0, .long 1, .ref q5, .ref q6, .int 0, .ref q7, .ref q8, .int 0])), (q1, .inl (E 0, 192, .inl (fun _ => 0))), (q2, .inl (E 0, 512, .inl (fun _ => 0))), (q3, .inl (E 0, 32, .inl (fun _ => 0))), (q4, .inl (E 2, 32, .inl (fun _ => 0))), (q5, .inl (E 1, 8, .inr (.inl (fun _ => 0)))), (q6, .inl (E 1, 8, .inr (.inl (fun _ => 0)))), (q7, .inl (E 0, 16, .inl (fun _ => 0))), (q8, .inl (E 2, 16, .inl (fun _ => 0)))] := hD
  exact mk_ret (fun k => [h0, q1, q2, q3, q4, q5, q6, q7, q8].getD k 0) X.1 X.2.1 hr hlocks rfl hP hD hS dX9_init_80
