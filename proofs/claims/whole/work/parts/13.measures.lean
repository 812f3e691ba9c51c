/-! 13.measures -/
def f_X3_goodAmong_5 : Nat → Mem → Nat → Nat → Int32 → Int32 → Int32 → Int32
  | 0, M, _, _, _, _, _ => 0
  | n1 + 1, M, v0, v1, v2, v3, v4 => if v2 < v4 then v3 else (bnd (f_X7_documentAt M v1 v4) (fun r4 => bnd (f_X6_isGood M v0 r4) (fun r5 => if r5 = 0 then (f_X3_goodAmong_5 n1 M v0 v1 v2 v3 (v4 + 1)) else (f_X3_goodAmong_5 n1 M v0 v1 v2 (v3 + 1) (v4 + 1)))))
def f_X3_goodAmong (M : Mem) (i1 : Nat) (i2 : Nat) (a3 : Int32) : Int32 := f_X3_goodAmong_5 ((a3.toInt - 1 + 1 : Int).toNat + 1) M i1 i2 a3 0 1
set_option maxRecDepth 100000 in
set_option maxHeartbeats 4000000 in
theorem c_X3_goodAmong (l : Launch) (G : En) (A : Nat → Prop) (M : Mem) (i1 : Nat) (hi1 : 10 ≤ i1 ∧ i1 < 18) (i2 : Nat) (hi2 : 34 ≤ i2 ∧ i2 < 66) (a3 : Int32) (hk : a3.toInt ≤ 16) : RdI true l yX3_goodAmong wsX3_goodAmong ({ frames := 2, cells := 0, slots := 0, locals := 42 }) G A M [.ref (G.2.2 i1), .ref (G.2.2 i2), .int a3] (f_X3_goodAmong M i1 i2 a3) := by
  refine RdI.of (cc := cX3_goodAmong) (maxL := 5) (ret := (some .int)) (own := RX3) (by decide) rfl rfl (Nat.le_of_ble_eq_true rfl) ?_
  intro p e s m below meth c X hw hr hlk ls hl
  have hl : lv_has ls 5 [(0, .ref (G.2.2 i1)), (1, .ref (G.2.2 i2)), (2, .int a3)] := hl
  unfold f_X3_goodAmong
  refine lv_iconst (v := 0) X.1 X.2.1 dX3_goodAmong_0 (by decide) ?_
  refine lv_istore_n (lv' := [(3, .int 0), (0, .ref (G.2.2 i1)), (1, .ref (G.2.2 i2)), (2, .int a3)]) X.1 X.2.1 dX3_goodAmong_1 rfl hl (by decide) rfl (fun ls hl => ?_)
  refine lv_iconst (v := 1) X.1 X.2.1 dX3_goodAmong_2 (by decide) ?_
  refine lv_istore (lv' := [(4, .int 1), (3, .int 0), (0, .ref (G.2.2 i1)), (1, .ref (G.2.2 i2)), (2, .int a3)]) X.1 X.2.1 dX3_goodAmong_3 hl (by decide) rfl (fun ls hl => ?_)
  have L1 : ∀ (n1 : Nat) (v0 : Nat) (v1 : Nat) (v2 : Int32) (v3 : Int32) (v4 : Int32) (hv0 : 10 ≤ v0 ∧ v0 < 18) (hv1 : 34 ≤ v1 ∧ v1 < 66) (hm1 : (v2.toInt - v4.toInt + 1 : Int).toNat < n1) (hi1_0 : v2.toInt ≤ 16) (hi1_1 : 1 ≤ v4.toInt), ∀ ls : Array Slot, lv_has ls 5 [(0, .ref (G.2.2 v0)), (1, .ref (G.2.2 v1)), (2, .int v2), (3, .int v3), (4, .int v4)] → W p l e ({ frames := 2, cells := 0, slots := 0, locals := 42 } : Room) s m ([.ref (G.2.2 i1), .ref (G.2.2 i2), .int a3] : List Value).toArray below meth c s.heap [] 0 0 (TSi below ([.ref (G.2.2 i1), .ref (G.2.2 i2), .int a3] : List Value).toArray s (f_X3_goodAmong_5 n1 M v0 v1 v2 v3 v4)) (F0 m 5 ls []) := by
    intro n1
    induction n1 with
    | zero => intro v0 v1 v2 v3 v4 hv0 hv1 hm1 hi1_0 hi1_1; exact absurd hm1 (by omega)
    | succ n1 ih1 =>
      intro v0 v1 v2 v3 v4 hv0 hv1 hm1 hi1_0 hi1_1 ls hl
      rw [f_X3_goodAmong_5]
      refine lv_iload X.1 X.2.1 dX3_goodAmong_5 (lv_at hl 4 rfl) ?_
      refine lv_iload_n X.1 X.2.1 dX3_goodAmong_7 rfl (lv_at hl 2 rfl) ?_
      refine bi_gt (tgt := 33) X dX3_goodAmong_8 (by decide) (fun c1 => ?_) (fun c1 => ?_)
      · skip
        have t2 : v2.toInt < v4.toInt := i_lt c1
        refine lv_iload_n X.1 X.2.1 dX3_goodAmong_33 rfl (lv_at hl 3 rfl) ?_
        exact rI X hr hlk dX3_goodAmong_34
      · skip
        have t3 : v4.toInt ≤ v2.toInt := i_nlt c1
        refine lv_aload_n X.1 X.2.1 dX3_goodAmong_11 rfl (lv_at hl 0 rfl) ?_
        refine lv_aload_n X.1 X.2.1 dX3_goodAmong_12 rfl (lv_at hl 1 rfl) ?_
        refine lv_iload X.1 X.2.1 dX3_goodAmong_13 (lv_at hl 4 rfl) ?_
        refine cVI [.int v4] [.ref (G.2.2 v0)] X hw (c_X7_documentAt l G A M v1 hv1 v4) (cwV 1 X.2.2.2.2 gX3_goodAmong_X7_documentAt rfl rfl rfl (by decide +kernel) ⟨Nat.le_of_ble_eq_true rfl, Nat.le_of_ble_eq_true rfl⟩) (hw.recv (lt98 (by have h9 := hv1; omega)) (hk_Row hv1) rfl) rfl rfl hl.1 (Nat.le_of_ble_eq_true rfl) dX3_goodAmong_15 ?_
        refine tni (fun r4 er4 => ?_)
        refine cVI [.int r4] [] X hw (c_X6_isGood l G A M v0 hv0 r4) (cwV 1 X.2.2.2.2 gX3_goodAmong_X6_isGood rfl rfl rfl (by decide +kernel) ⟨Nat.le_of_ble_eq_true rfl, Nat.le_of_ble_eq_true rfl⟩) (hw.recv (lt98 (by have h9 := hv0; omega)) (hk_Q hv0) rfl) rfl rfl hl.1 (Nat.le_of_ble_eq_true rfl) dX3_goodAmong_18 ?_
        refine tni (fun r5 er5 => ?_)
        refine bz_eq (tgt := 27) X dX3_goodAmong_21 (by decide) (fun c6 => ?_) (fun c6 => ?_)
        · skip
          have t7 : r5.toInt = 0 := i_eq c6
          refine lv_iinc (v := (v4 + 1)) (lv' := [(4, .int (v4 + 1)), (0, .ref (G.2.2 v0)), (1, .ref (G.2.2 v1)), (2, .int v2), (3, .int v3)]) X.1 X.2.1 dX3_goodAmong_27 hl (k := 4) rfl rfl (by decide) rfl (fun ls hl => ?_)
          refine lv_goto (tgt := 5) X.1 X.2.1 dX3_goodAmong_30 (by decide) ?_
          have q8 := inc_sp v4
          exact ih1 v0 v1 v2 v3 (v4 + 1) hv0 hv1 (by omega) (by omega) (by omega)  ls (lv_sub hl [1, 2, 3, 4, 0] rfl)
        · skip
          have t9 : ¬ r5.toInt = 0 := i_ne c6
          refine lv_iinc (v := (v3 + 1)) (lv' := [(3, .int (v3 + 1)), (0, .ref (G.2.2 v0)), (1, .ref (G.2.2 v1)), (2, .int v2), (4, .int v4)]) X.1 X.2.1 dX3_goodAmong_24 hl (k := 3) rfl rfl (by decide) rfl (fun ls hl => ?_)
          refine lv_iinc (v := (v4 + 1)) (lv' := [(4, .int (v4 + 1)), (3, .int (v3 + 1)), (0, .ref (G.2.2 v0)), (1, .ref (G.2.2 v1)), (2, .int v2)]) X.1 X.2.1 dX3_goodAmong_27 hl (k := 4) rfl rfl (by decide) rfl (fun ls hl => ?_)
          refine lv_goto (tgt := 5) X.1 X.2.1 dX3_goodAmong_30 (by decide) ?_
          have q10 := inc_sp v3
          have q11 := inc_sp v4
          exact ih1 v0 v1 v2 (v3 + 1) (v4 + 1) hv0 hv1 (by omega) (by omega) (by omega)  ls (lv_sub hl [2, 3, 4, 1, 0] rfl)
  exact L1 ((a3.toInt - 1 + 1 : Int).toNat + 1) i1 i2 a3 0 1 hi1 hi2 (Nat.lt_succ_self _) (by first | omega | decide) (by first | omega | decide)  ls (lv_sub hl [2, 3, 4, 1, 0] rfl)

def f_X3_judgedAmong_5 : Nat → Mem → Nat → Nat → Int32 → Int32 → Int32 → Int32
  | 0, M, _, _, _, _, _ => 0
  | n1 + 1, M, v0, v1, v2, v3, v4 => if v2 < v4 then v3 else (bnd (f_X7_documentAt M v1 v4) (fun r4 => bnd (f_X6_gradeOf M v0 r4) (fun r5 => if r5 = (-1) then (f_X3_judgedAmong_5 n1 M v0 v1 v2 v3 (v4 + 1)) else (f_X3_judgedAmong_5 n1 M v0 v1 v2 (v3 + 1) (v4 + 1)))))
def f_X3_judgedAmong (M : Mem) (i1 : Nat) (i2 : Nat) (a3 : Int32) : Int32 := f_X3_judgedAmong_5 ((a3.toInt - 1 + 1 : Int).toNat + 1) M i1 i2 a3 0 1
set_option maxRecDepth 100000 in
set_option maxHeartbeats 4000000 in
theorem c_X3_judgedAmong (l : Launch) (G : En) (A : Nat → Prop) (M : Mem) (i1 : Nat) (hi1 : 10 ≤ i1 ∧ i1 < 18) (i2 : Nat) (hi2 : 34 ≤ i2 ∧ i2 < 66) (a3 : Int32) (hk : a3.toInt ≤ 16) : RdI true l yX3_judgedAmong wsX3_judgedAmong ({ frames := 1, cells := 0, slots := 0, locals := 21 }) G A M [.ref (G.2.2 i1), .ref (G.2.2 i2), .int a3] (f_X3_judgedAmong M i1 i2 a3) := by
  refine RdI.of (cc := cX3_judgedAmong) (maxL := 5) (ret := (some .int)) (own := RX3) (by decide) rfl rfl (Nat.le_of_ble_eq_true rfl) ?_
  intro p e s m below meth c X hw hr hlk ls hl
  have hl : lv_has ls 5 [(0, .ref (G.2.2 i1)), (1, .ref (G.2.2 i2)), (2, .int a3)] := hl
  unfold f_X3_judgedAmong
  refine lv_iconst (v := 0) X.1 X.2.1 dX3_judgedAmong_0 (by decide) ?_
  refine lv_istore_n (lv' := [(3, .int 0), (0, .ref (G.2.2 i1)), (1, .ref (G.2.2 i2)), (2, .int a3)]) X.1 X.2.1 dX3_judgedAmong_1 rfl hl (by decide) rfl (fun ls hl => ?_)
  refine lv_iconst (v := 1) X.1 X.2.1 dX3_judgedAmong_2 (by decide) ?_
  refine lv_istore (lv' := [(4, .int 1), (3, .int 0), (0, .ref (G.2.2 i1)), (1, .ref (G.2.2 i2)), (2, .int a3)]) X.1 X.2.1 dX3_judgedAmong_3 hl (by decide) rfl (fun ls hl => ?_)
  have L1 : ∀ (n1 : Nat) (v0 : Nat) (v1 : Nat) (v2 : Int32) (v3 : Int32) (v4 : Int32) (hv0 : 10 ≤ v0 ∧ v0 < 18) (hv1 : 34 ≤ v1 ∧ v1 < 66) (hm1 : (v2.toInt - v4.toInt + 1 : Int).toNat < n1) (hi1_0 : v2.toInt ≤ 16) (hi1_1 : 1 ≤ v4.toInt), ∀ ls : Array Slot, lv_has ls 5 [(0, .ref (G.2.2 v0)), (1, .ref (G.2.2 v1)), (2, .int v2), (3, .int v3), (4, .int v4)] → W p l e ({ frames := 1, cells := 0, slots := 0, locals := 21 } : Room) s m ([.ref (G.2.2 i1), .ref (G.2.2 i2), .int a3] : List Value).toArray below meth c s.heap [] 0 0 (TSi below ([.ref (G.2.2 i1), .ref (G.2.2 i2), .int a3] : List Value).toArray s (f_X3_judgedAmong_5 n1 M v0 v1 v2 v3 v4)) (F0 m 5 ls []) := by
    intro n1
    induction n1 with
    | zero => intro v0 v1 v2 v3 v4 hv0 hv1 hm1 hi1_0 hi1_1; exact absurd hm1 (by omega)
    | succ n1 ih1 =>
      intro v0 v1 v2 v3 v4 hv0 hv1 hm1 hi1_0 hi1_1 ls hl
      rw [f_X3_judgedAmong_5]
      refine lv_iload X.1 X.2.1 dX3_judgedAmong_5 (lv_at hl 4 rfl) ?_
      refine lv_iload_n X.1 X.2.1 dX3_judgedAmong_7 rfl (lv_at hl 2 rfl) ?_
      refine bi_gt (tgt := 34) X dX3_judgedAmong_8 (by decide) (fun c1 => ?_) (fun c1 => ?_)
      · skip
        have t2 : v2.toInt < v4.toInt := i_lt c1
        refine lv_iload_n X.1 X.2.1 dX3_judgedAmong_34 rfl (lv_at hl 3 rfl) ?_
        exact rI X hr hlk dX3_judgedAmong_35
      · skip
        have t3 : v4.toInt ≤ v2.toInt := i_nlt c1
        refine lv_aload_n X.1 X.2.1 dX3_judgedAmong_11 rfl (lv_at hl 0 rfl) ?_
        refine lv_aload_n X.1 X.2.1 dX3_judgedAmong_12 rfl (lv_at hl 1 rfl) ?_
        refine lv_iload X.1 X.2.1 dX3_judgedAmong_13 (lv_at hl 4 rfl) ?_
        refine cVI [.int v4] [.ref (G.2.2 v0)] X hw (c_X7_documentAt l G A M v1 hv1 v4) (cwV 1 X.2.2.2.2 gX3_judgedAmong_X7_documentAt rfl rfl rfl (by decide +kernel) ⟨Nat.le_of_ble_eq_true rfl, Nat.le_of_ble_eq_true rfl⟩) (hw.recv (lt98 (by have h9 := hv1; omega)) (hk_Row hv1) rfl) rfl rfl hl.1 (Nat.le_of_ble_eq_true rfl) dX3_judgedAmong_15 ?_
        refine tni (fun r4 er4 => ?_)
        refine cVI [.int r4] [] X hw (c_X6_gradeOf l G A M v0 hv0 r4) (cwV 1 X.2.2.2.2 gX3_judgedAmong_X6_gradeOf rfl rfl rfl (by decide +kernel) ⟨Nat.le_of_ble_eq_true rfl, Nat.le_of_ble_eq_true rfl⟩) (hw.recv (lt98 (by have h9 := hv0; omega)) (hk_Q hv0) rfl) rfl rfl hl.1 (Nat.le_of_ble_eq_true rfl) dX3_judgedAmong_18 ?_
        refine tni (fun r5 er5 => ?_)
        refine lv_iconst (v := (-1)) X.1 X.2.1 dX3_judgedAmong_21 (by decide) ?_
        refine bi_eq (tgt := 28) X dX3_judgedAmong_22 (by decide) (fun c6 => ?_) (fun c6 => ?_)
        · skip
          have t7 : r5.toInt = -1 := i_eq c6
          refine lv_iinc (v := (v4 + 1)) (lv' := [(4, .int (v4 + 1)), (0, .ref (G.2.2 v0)), (1, .ref (G.2.2 v1)), (2, .int v2), (3, .int v3)]) X.1 X.2.1 dX3_judgedAmong_28 hl (k := 4) rfl rfl (by decide) rfl (fun ls hl => ?_)
          refine lv_goto (tgt := 5) X.1 X.2.1 dX3_judgedAmong_31 (by decide) ?_
          have q8 := inc_sp v4
          exact ih1 v0 v1 v2 v3 (v4 + 1) hv0 hv1 (by omega) (by omega) (by omega)  ls (lv_sub hl [1, 2, 3, 4, 0] rfl)
        · skip
          have t9 : ¬ r5.toInt = -1 := i_ne c6
          refine lv_iinc (v := (v3 + 1)) (lv' := [(3, .int (v3 + 1)), (0, .ref (G.2.2 v0)), (1, .ref (G.2.2 v1)), (2, .int v2), (4, .int v4)]) X.1 X.2.1 dX3_judgedAmong_25 hl (k := 3) rfl rfl (by decide) rfl (fun ls hl => ?_)
          refine lv_iinc (v := (v4 + 1)) (lv' := [(4, .int (v4 + 1)), (3, .int (v3 + 1)), (0, .ref (G.2.2 v0)), (1, .ref (G.2.2 v1)), (2, .int v2)]) X.1 X.2.1 dX3_judgedAmong_28 hl (k := 4) rfl rfl (by decide) rfl (fun ls hl => ?_)
          refine lv_goto (tgt := 5) X.1 X.2.1 dX3_judgedAmong_31 (by decide) ?_
          have q10 := inc_sp v3
          have q11 := inc_sp v4
          exact ih1 v0 v1 v2 (v3 + 1) (v4 + 1) hv0 hv1 (by omega) (by omega) (by omega)  ls (lv_sub hl [2, 3, 4, 1, 0] rfl)
  exact L1 ((a3.toInt - 1 + 1 : Int).toNat + 1) i1 i2 a3 0 1 hi1 hi2 (Nat.lt_succ_self _) (by first | omega | decide) (by first | omega | decide)  ls (lv_sub hl [2, 3, 4, 1, 0] rfl)

def f_X3_averageParts_8 : Nat → Mem → Nat → Nat → Int32 → Int64 → Int32 → Int32 → Int64
  | 0, M, _, _, _, _, _, _ => 0
  | n1 + 1, M, v0, v1, v2, v3, v5, v6 => if v2 < v6 then v3 else (bnd (f_X7_documentAt M v1 v6) (fun r4 => bnd (f_X6_isGood M v0 r4) (fun r5 => if r5 = 0 then (f_X3_averageParts_8 n1 M v0 v1 v2 v3 v5 (v6 + 1)) else (bnd (v3 + ((v5 + 1).toInt64 * (720720 / v6.toInt64))) (fun w10 => f_X3_averageParts_8 n1 M v0 v1 v2 w10 (v5 + 1) (v6 + 1))))))
def f_X3_averageParts (M : Mem) (i1 : Nat) (i2 : Nat) (a3 : Int32) : Int64 := f_X3_averageParts_8 ((a3.toInt - 1 + 1 : Int).toNat + 1) M i1 i2 a3 0 0 1
set_option maxRecDepth 100000 in
set_option maxHeartbeats 4000000 in
theorem c_X3_averageParts (l : Launch) (G : En) (A : Nat → Prop) (M : Mem) (i1 : Nat) (hi1 : 10 ≤ i1 ∧ i1 < 18) (i2 : Nat) (hi2 : 34 ≤ i2 ∧ i2 < 66) (a3 : Int32) (hk : a3.toInt ≤ 16) : RdL true l yX3_averageParts wsX3_averageParts ({ frames := 2, cells := 0, slots := 0, locals := 42 }) G A M [.ref (G.2.2 i1), .ref (G.2.2 i2), .int a3] (f_X3_averageParts M i1 i2 a3) := by
  refine RdL.of (cc := cX3_averageParts) (maxL := 7) (ret := (some .long)) (own := RX3) (by decide) rfl rfl (Nat.le_of_ble_eq_true rfl) ?_
  intro p e s m below meth c X hw hr hlk ls hl
  have hl : lv_has ls 7 [(0, .ref (G.2.2 i1)), (1, .ref (G.2.2 i2)), (2, .int a3)] := hl
  unfold f_X3_averageParts
  refine lv_lconst (v := 0) X.1 X.2.1 dX3_averageParts_0 (by decide) ?_
  refine lv_lstore_n (lv' := [(3, .long 0), (0, .ref (G.2.2 i1)), (1, .ref (G.2.2 i2)), (2, .int a3)]) X.1 X.2.1 dX3_averageParts_1 rfl hl (by decide) rfl (fun ls hl => ?_)
  refine lv_iconst (v := 0) X.1 X.2.1 dX3_averageParts_2 (by decide) ?_
  refine lv_istore (lv' := [(5, .int 0), (3, .long 0), (0, .ref (G.2.2 i1)), (1, .ref (G.2.2 i2)), (2, .int a3)]) X.1 X.2.1 dX3_averageParts_3 hl (by decide) rfl (fun ls hl => ?_)
  refine lv_iconst (v := 1) X.1 X.2.1 dX3_averageParts_5 (by decide) ?_
  refine lv_istore (lv' := [(6, .int 1), (5, .int 0), (3, .long 0), (0, .ref (G.2.2 i1)), (1, .ref (G.2.2 i2)), (2, .int a3)]) X.1 X.2.1 dX3_averageParts_6 hl (by decide) rfl (fun ls hl => ?_)
  have L1 : ∀ (n1 : Nat) (v0 : Nat) (v1 : Nat) (v2 : Int32) (v3 : Int64) (v5 : Int32) (v6 : Int32) (hv0 : 10 ≤ v0 ∧ v0 < 18) (hv1 : 34 ≤ v1 ∧ v1 < 66) (hm1 : (v2.toInt - v6.toInt + 1 : Int).toNat < n1) (hi1_0 : v2.toInt ≤ 16) (hi1_1 : 1 ≤ v6.toInt), ∀ ls : Array Slot, lv_has ls 7 [(0, .ref (G.2.2 v0)), (1, .ref (G.2.2 v1)), (2, .int v2), (3, .long v3), (5, .int v5), (6, .int v6)] → W p l e ({ frames := 2, cells := 0, slots := 0, locals := 42 } : Room) s m ([.ref (G.2.2 i1), .ref (G.2.2 i2), .int a3] : List Value).toArray below meth c s.heap [] 0 0 (TSl below ([.ref (G.2.2 i1), .ref (G.2.2 i2), .int a3] : List Value).toArray s (f_X3_averageParts_8 n1 M v0 v1 v2 v3 v5 v6)) (F0 m 8 ls []) := by
    intro n1
    induction n1 with
    | zero => intro v0 v1 v2 v3 v5 v6 hv0 hv1 hm1 hi1_0 hi1_1; exact absurd hm1 (by omega)
    | succ n1 ih1 =>
      intro v0 v1 v2 v3 v5 v6 hv0 hv1 hm1 hi1_0 hi1_1 ls hl
      rw [f_X3_averageParts_8]
      refine lv_iload X.1 X.2.1 dX3_averageParts_8 (lv_at hl 5 rfl) ?_
      refine lv_iload_n X.1 X.2.1 dX3_averageParts_10 rfl (lv_at hl 2 rfl) ?_
      refine bi_gt (tgt := 50) X dX3_averageParts_11 (by decide) (fun c1 => ?_) (fun c1 => ?_)
      · skip
        have t2 : v2.toInt < v6.toInt := i_lt c1
        refine lv_lload_n X.1 X.2.1 dX3_averageParts_50 rfl (lv_at hl 3 rfl) ?_
        exact rL X hr hlk dX3_averageParts_51
      · skip
        have t3 : v6.toInt ≤ v2.toInt := i_nlt c1
        refine lv_aload_n X.1 X.2.1 dX3_averageParts_14 rfl (lv_at hl 0 rfl) ?_
        refine lv_aload_n X.1 X.2.1 dX3_averageParts_15 rfl (lv_at hl 1 rfl) ?_
        refine lv_iload X.1 X.2.1 dX3_averageParts_16 (lv_at hl 5 rfl) ?_
        refine cVI [.int v6] [.ref (G.2.2 v0)] X hw (c_X7_documentAt l G A M v1 hv1 v6) (cwV 1 X.2.2.2.2 gX3_averageParts_X7_documentAt rfl rfl rfl (by decide +kernel) ⟨Nat.le_of_ble_eq_true rfl, Nat.le_of_ble_eq_true rfl⟩) (hw.recv (lt98 (by have h9 := hv1; omega)) (hk_Row hv1) rfl) rfl rfl hl.1 (Nat.le_of_ble_eq_true rfl) dX3_averageParts_18 ?_
        refine tni (fun r4 er4 => ?_)
        refine cVI [.int r4] [] X hw (c_X6_isGood l G A M v0 hv0 r4) (cwV 1 X.2.2.2.2 gX3_averageParts_X6_isGood rfl rfl rfl (by decide +kernel) ⟨Nat.le_of_ble_eq_true rfl, Nat.le_of_ble_eq_true rfl⟩) (hw.recv (lt98 (by have h9 := hv0; omega)) (hk_Q hv0) rfl) rfl rfl hl.1 (Nat.le_of_ble_eq_true rfl) dX3_averageParts_21 ?_
        refine tni (fun r5 er5 => ?_)
        refine bz_eq (tgt := 44) X dX3_averageParts_24 (by decide) (fun c6 => ?_) (fun c6 => ?_)
        · skip
          have t7 : r5.toInt = 0 := i_eq c6
          refine lv_iinc (v := (v6 + 1)) (lv' := [(6, .int (v6 + 1)), (0, .ref (G.2.2 v0)), (1, .ref (G.2.2 v1)), (2, .int v2), (3, .long v3), (5, .int v5)]) X.1 X.2.1 dX3_averageParts_44 hl (k := 5) rfl rfl (by decide) rfl (fun ls hl => ?_)
          refine lv_goto (tgt := 8) X.1 X.2.1 dX3_averageParts_47 (by decide) ?_
          have q8 := inc_sp v6
          exact ih1 v0 v1 v2 v3 v5 (v6 + 1) hv0 hv1 (by omega) (by omega) (by omega)  ls (lv_sub hl [1, 2, 3, 4, 5, 0] rfl)
        · skip
          have t9 : ¬ r5.toInt = 0 := i_ne c6
          refine lv_iinc (v := (v5 + 1)) (lv' := [(5, .int (v5 + 1)), (0, .ref (G.2.2 v0)), (1, .ref (G.2.2 v1)), (2, .int v2), (3, .long v3), (6, .int v6)]) X.1 X.2.1 dX3_averageParts_27 hl (k := 4) rfl rfl (by decide) rfl (fun ls hl => ?_)
          refine lv_lload_n X.1 X.2.1 dX3_averageParts_30 rfl (lv_at hl 4 rfl) ?_
          refine lv_iload X.1 X.2.1 dX3_averageParts_31 (lv_at hl 0 rfl) ?_
          refine lv_i2l (v := (v5 + 1).toInt64) X.1 X.2.1 dX3_averageParts_33 rfl ?_
          refine lv_ldc2 (v := 720720) X.1 X.2.1 X.2.2.2.1 (X.2.2.2.2 (.constantLong RX3 31 (720720)) (by decide +kernel)) dX3_averageParts_34 ?_
          refine lv_iload X.1 X.2.1 dX3_averageParts_37 (lv_at hl 5 rfl) ?_
          refine lv_i2l (v := v6.toInt64) X.1 X.2.1 dX3_averageParts_39 rfl ?_
          refine lv_ldiv X.1 X.2.1 dX3_averageParts_40 (i2l_nz (by omega)) ?_
          refine lv_lmul X.1 X.2.1 dX3_averageParts_41 ?_
          refine lv_ladd X.1 X.2.1 dX3_averageParts_42 ?_
          refine tnl (fun w10 ew10 => ?_)
          refine lv_lstore_n (lv' := [(3, .long w10), (5, .int (v5 + 1)), (0, .ref (G.2.2 v0)), (1, .ref (G.2.2 v1)), (2, .int v2), (6, .int v6)]) X.1 X.2.1 dX3_averageParts_43 rfl hl (by decide) rfl (fun ls hl => ?_)
          refine lv_iinc (v := (v6 + 1)) (lv' := [(6, .int (v6 + 1)), (3, .long w10), (5, .int (v5 + 1)), (0, .ref (G.2.2 v0)), (1, .ref (G.2.2 v1)), (2, .int v2)]) X.1 X.2.1 dX3_averageParts_44 hl (k := 5) rfl rfl (by decide) rfl (fun ls hl => ?_)
          refine lv_goto (tgt := 8) X.1 X.2.1 dX3_averageParts_47 (by decide) ?_
          have q11 := inc_sp v5
          have q12 := inc_sp v6
          exact ih1 v0 v1 v2 w10 (v5 + 1) (v6 + 1) hv0 hv1 (by omega) (by omega) (by omega)  ls (lv_sub hl [3, 4, 5, 1, 2, 0] rfl)
  exact L1 ((a3.toInt - 1 + 1 : Int).toNat + 1) i1 i2 a3 0 0 1 hi1 hi2 (Nat.lt_succ_self _) (by first | omega | decide) (by first | omega | decide)  ls (lv_sub hl [3, 4, 5, 2, 1, 0] rfl)

def f_X3_firstGoodRank_2 : Nat → Mem → Nat → Nat → Int32 → Int32 → Int32
  | 0, M, _, _, _, _ => 0
  | n1 + 1, M, v0, v1, v2, v3 => if v2 < v3 then 0 else (bnd (f_X7_documentAt M v1 v3) (fun r4 => bnd (f_X6_isGood M v0 r4) (fun r5 => if r5 = 0 then (f_X3_firstGoodRank_2 n1 M v0 v1 v2 (v3 + 1)) else v3)))
def f_X3_firstGoodRank (M : Mem) (i1 : Nat) (i2 : Nat) (a3 : Int32) : Int32 := f_X3_firstGoodRank_2 ((a3.toInt - 1 + 1 : Int).toNat + 1) M i1 i2 a3 1
set_option maxRecDepth 100000 in
set_option maxHeartbeats 4000000 in
theorem c_X3_firstGoodRank (l : Launch) (G : En) (A : Nat → Prop) (M : Mem) (i1 : Nat) (hi1 : 10 ≤ i1 ∧ i1 < 18) (i2 : Nat) (hi2 : 34 ≤ i2 ∧ i2 < 66) (a3 : Int32) (hk : a3.toInt ≤ 16) : RdI true l yX3_firstGoodRank wsX3_firstGoodRank ({ frames := 2, cells := 0, slots := 0, locals := 42 }) G A M [.ref (G.2.2 i1), .ref (G.2.2 i2), .int a3] (f_X3_firstGoodRank M i1 i2 a3) := by
  refine RdI.of (cc := cX3_firstGoodRank) (maxL := 4) (ret := (some .int)) (own := RX3) (by decide) rfl rfl (Nat.le_of_ble_eq_true rfl) ?_
  intro p e s m below meth c X hw hr hlk ls hl
  have hl : lv_has ls 4 [(0, .ref (G.2.2 i1)), (1, .ref (G.2.2 i2)), (2, .int a3)] := hl
  unfold f_X3_firstGoodRank
  refine lv_iconst (v := 1) X.1 X.2.1 dX3_firstGoodRank_0 (by decide) ?_
  refine lv_istore_n (lv' := [(3, .int 1), (0, .ref (G.2.2 i1)), (1, .ref (G.2.2 i2)), (2, .int a3)]) X.1 X.2.1 dX3_firstGoodRank_1 rfl hl (by decide) rfl (fun ls hl => ?_)
  have L1 : ∀ (n1 : Nat) (v0 : Nat) (v1 : Nat) (v2 : Int32) (v3 : Int32) (hv0 : 10 ≤ v0 ∧ v0 < 18) (hv1 : 34 ≤ v1 ∧ v1 < 66) (hm1 : (v2.toInt - v3.toInt + 1 : Int).toNat < n1) (hi1_0 : v2.toInt ≤ 16) (hi1_1 : 1 ≤ v3.toInt), ∀ ls : Array Slot, lv_has ls 4 [(0, .ref (G.2.2 v0)), (1, .ref (G.2.2 v1)), (2, .int v2), (3, .int v3)] → W p l e ({ frames := 2, cells := 0, slots := 0, locals := 42 } : Room) s m ([.ref (G.2.2 i1), .ref (G.2.2 i2), .int a3] : List Value).toArray below meth c s.heap [] 0 0 (TSi below ([.ref (G.2.2 i1), .ref (G.2.2 i2), .int a3] : List Value).toArray s (f_X3_firstGoodRank_2 n1 M v0 v1 v2 v3)) (F0 m 2 ls []) := by
    intro n1
    induction n1 with
    | zero => intro v0 v1 v2 v3 hv0 hv1 hm1 hi1_0 hi1_1; exact absurd hm1 (by omega)
    | succ n1 ih1 =>
      intro v0 v1 v2 v3 hv0 hv1 hm1 hi1_0 hi1_1 ls hl
      rw [f_X3_firstGoodRank_2]
      refine lv_iload_n X.1 X.2.1 dX3_firstGoodRank_2 rfl (lv_at hl 3 rfl) ?_
      refine lv_iload_n X.1 X.2.1 dX3_firstGoodRank_3 rfl (lv_at hl 2 rfl) ?_
      refine bi_gt (tgt := 27) X dX3_firstGoodRank_4 (by decide) (fun c1 => ?_) (fun c1 => ?_)
      · skip
        have t2 : v2.toInt < v3.toInt := i_lt c1
        refine lv_iconst (v := 0) X.1 X.2.1 dX3_firstGoodRank_27 (by decide) ?_
        exact rI X hr hlk dX3_firstGoodRank_28
      · skip
        have t3 : v3.toInt ≤ v2.toInt := i_nlt c1
        refine lv_aload_n X.1 X.2.1 dX3_firstGoodRank_7 rfl (lv_at hl 0 rfl) ?_
        refine lv_aload_n X.1 X.2.1 dX3_firstGoodRank_8 rfl (lv_at hl 1 rfl) ?_
        refine lv_iload_n X.1 X.2.1 dX3_firstGoodRank_9 rfl (lv_at hl 3 rfl) ?_
        refine cVI [.int v3] [.ref (G.2.2 v0)] X hw (c_X7_documentAt l G A M v1 hv1 v3) (cwV 1 X.2.2.2.2 gX3_firstGoodRank_X7_documentAt rfl rfl rfl (by decide +kernel) ⟨Nat.le_of_ble_eq_true rfl, Nat.le_of_ble_eq_true rfl⟩) (hw.recv (lt98 (by have h9 := hv1; omega)) (hk_Row hv1) rfl) rfl rfl hl.1 (Nat.le_of_ble_eq_true rfl) dX3_firstGoodRank_10 ?_
        refine tni (fun r4 er4 => ?_)
        refine cVI [.int r4] [] X hw (c_X6_isGood l G A M v0 hv0 r4) (cwV 1 X.2.2.2.2 gX3_firstGoodRank_X6_isGood rfl rfl rfl (by decide +kernel) ⟨Nat.le_of_ble_eq_true rfl, Nat.le_of_ble_eq_true rfl⟩) (hw.recv (lt98 (by have h9 := hv0; omega)) (hk_Q hv0) rfl) rfl rfl hl.1 (Nat.le_of_ble_eq_true rfl) dX3_firstGoodRank_13 ?_
        refine tni (fun r5 er5 => ?_)
        refine bz_eq (tgt := 21) X dX3_firstGoodRank_16 (by decide) (fun c6 => ?_) (fun c6 => ?_)
        · skip
          have t7 : r5.toInt = 0 := i_eq c6
          refine lv_iinc (v := (v3 + 1)) (lv' := [(3, .int (v3 + 1)), (0, .ref (G.2.2 v0)), (1, .ref (G.2.2 v1)), (2, .int v2)]) X.1 X.2.1 dX3_firstGoodRank_21 hl (k := 3) rfl rfl (by decide) rfl (fun ls hl => ?_)
          refine lv_goto (tgt := 2) X.1 X.2.1 dX3_firstGoodRank_24 (by decide) ?_
          have q8 := inc_sp v3
          exact ih1 v0 v1 v2 (v3 + 1) hv0 hv1 (by omega) (by omega) (by omega)  ls (lv_sub hl [1, 2, 3, 0] rfl)
        · skip
          have t9 : ¬ r5.toInt = 0 := i_ne c6
          refine lv_iload_n X.1 X.2.1 dX3_firstGoodRank_19 rfl (lv_at hl 3 rfl) ?_
          exact rI X hr hlk dX3_firstGoodRank_20
  exact L1 ((a3.toInt - 1 + 1 : Int).toNat + 1) i1 i2 a3 1 hi1 hi2 (Nat.lt_succ_self _) (by first | omega | decide) (by first | omega | decide)  ls (lv_sub hl [1, 2, 3, 0] rfl)

def f_X3_weightOf (a1 : Int32) : Int64 := if a1 < 1 then 0 else (if (3 : Int32) < a1 then 0 else (((1 : Int64) <<< (a1.toInt64 &&& 63)) - 1))
set_option maxRecDepth 100000 in
set_option maxHeartbeats 4000000 in
theorem c_X3_weightOf (l : Launch) (G : En) (A : Nat → Prop) (M : Mem) (a1 : Int32) : RdL true l yX3_weightOf wsX3_weightOf ({ frames := 0, cells := 0, slots := 0, locals := 0 }) G A M [.int a1] (f_X3_weightOf a1) := by
  refine RdL.of (cc := cX3_weightOf) (maxL := 1) (ret := (some .long)) (own := RX3) (by decide) rfl rfl (Nat.le_of_ble_eq_true rfl) ?_
  intro p e s m below meth c X hw hr hlk ls hl
  have hl : lv_has ls 1 [(0, .int a1)] := hl
  unfold f_X3_weightOf
  refine lv_iload_n X.1 X.2.1 dX3_weightOf_0 rfl (lv_at hl 0 rfl) ?_
  refine lv_iconst (v := 1) X.1 X.2.1 dX3_weightOf_1 (by decide) ?_
  refine bi_lt (tgt := 18) X dX3_weightOf_2 (by decide) (fun c1 => ?_) (fun c1 => ?_)
  · skip
    have t2 : a1.toInt < 1 := i_lt c1
    refine lv_lconst (v := 0) X.1 X.2.1 dX3_weightOf_18 (by decide) ?_
    exact rL X hr hlk dX3_weightOf_19
  · skip
    have t3 : 1 ≤ a1.toInt := i_nlt c1
    refine lv_iload_n X.1 X.2.1 dX3_weightOf_5 rfl (lv_at hl 0 rfl) ?_
    refine lv_iconst (v := 3) X.1 X.2.1 dX3_weightOf_6 (by decide) ?_
    refine bi_gt (tgt := 18) X dX3_weightOf_7 (by decide) (fun c4 => ?_) (fun c4 => ?_)
    · skip
      have t5 : 3 < a1.toInt := i_lt c4
      refine lv_lconst (v := 0) X.1 X.2.1 dX3_weightOf_18 (by decide) ?_
      exact rL X hr hlk dX3_weightOf_19
    · skip
      have t6 : a1.toInt ≤ 3 := i_nlt c4
      refine lv_lconst (v := 1) X.1 X.2.1 dX3_weightOf_10 (by decide) ?_
      refine lv_iload_n X.1 X.2.1 dX3_weightOf_11 rfl (lv_at hl 0 rfl) ?_
      refine lv_lshl (v := ((1 : Int64) <<< (a1.toInt64 &&& 63))) X.1 X.2.1 dX3_weightOf_12 rfl ?_
      refine lv_lconst (v := 1) X.1 X.2.1 dX3_weightOf_13 (by decide) ?_
      refine lv_lsub X.1 X.2.1 dX3_weightOf_14 ?_
      refine lv_goto (tgt := 19) X.1 X.2.1 dX3_weightOf_15 (by decide) ?_
      exact rL X hr hlk dX3_weightOf_19

def f_X3_gainParts_5 : Nat → Mem → Nat → Nat → Int32 → Int64 → Int32 → Int64
  | 0, M, _, _, _, _, _ => 0
  | n1 + 1, M, v0, v1, v2, v3, v5 => if v2 < v5 then v3 else (bnd (f_X7_documentAt M v1 v5) (fun r4 => bnd (f_X6_gradeOf M v0 r4) (fun r5 => bnd (f_X3_weightOf r5) (fun r6 => bnd (v3 + (r6 * (720720 / v5.toInt64))) (fun w7 => f_X3_gainParts_5 n1 M v0 v1 v2 w7 (v5 + 1))))))
def f_X3_gainParts (M : Mem) (i1 : Nat) (i2 : Nat) (a3 : Int32) : Int64 := f_X3_gainParts_5 ((a3.toInt - 1 + 1 : Int).toNat + 1) M i1 i2 a3 0 1
set_option maxRecDepth 100000 in
set_option maxHeartbeats 4000000 in
theorem c_X3_gainParts (l : Launch) (G : En) (A : Nat → Prop) (M : Mem) (i1 : Nat) (hi1 : 10 ≤ i1 ∧ i1 < 18) (i2 : Nat) (hi2 : 34 ≤ i2 ∧ i2 < 66) (a3 : Int32) (hk : a3.toInt ≤ 16) : RdL true l yX3_gainParts wsX3_gainParts ({ frames := 1, cells := 0, slots := 0, locals := 21 }) G A M [.ref (G.2.2 i1), .ref (G.2.2 i2), .int a3] (f_X3_gainParts M i1 i2 a3) := by
  refine RdL.of (cc := cX3_gainParts) (maxL := 6) (ret := (some .long)) (own := RX3) (by decide) rfl rfl (Nat.le_of_ble_eq_true rfl) ?_
  intro p e s m below meth c X hw hr hlk ls hl
  have hl : lv_has ls 6 [(0, .ref (G.2.2 i1)), (1, .ref (G.2.2 i2)), (2, .int a3)] := hl
  unfold f_X3_gainParts
  refine lv_lconst (v := 0) X.1 X.2.1 dX3_gainParts_0 (by decide) ?_
  refine lv_lstore_n (lv' := [(3, .long 0), (0, .ref (G.2.2 i1)), (1, .ref (G.2.2 i2)), (2, .int a3)]) X.1 X.2.1 dX3_gainParts_1 rfl hl (by decide) rfl (fun ls hl => ?_)
  refine lv_iconst (v := 1) X.1 X.2.1 dX3_gainParts_2 (by decide) ?_
  refine lv_istore (lv' := [(5, .int 1), (3, .long 0), (0, .ref (G.2.2 i1)), (1, .ref (G.2.2 i2)), (2, .int a3)]) X.1 X.2.1 dX3_gainParts_3 hl (by decide) rfl (fun ls hl => ?_)
  have L1 : ∀ (n1 : Nat) (v0 : Nat) (v1 : Nat) (v2 : Int32) (v3 : Int64) (v5 : Int32) (hv0 : 10 ≤ v0 ∧ v0 < 18) (hv1 : 34 ≤ v1 ∧ v1 < 66) (hm1 : (v2.toInt - v5.toInt + 1 : Int).toNat < n1) (hi1_0 : v2.toInt ≤ 16) (hi1_1 : 1 ≤ v5.toInt), ∀ ls : Array Slot, lv_has ls 6 [(0, .ref (G.2.2 v0)), (1, .ref (G.2.2 v1)), (2, .int v2), (3, .long v3), (5, .int v5)] → W p l e ({ frames := 1, cells := 0, slots := 0, locals := 21 } : Room) s m ([.ref (G.2.2 i1), .ref (G.2.2 i2), .int a3] : List Value).toArray below meth c s.heap [] 0 0 (TSl below ([.ref (G.2.2 i1), .ref (G.2.2 i2), .int a3] : List Value).toArray s (f_X3_gainParts_5 n1 M v0 v1 v2 v3 v5)) (F0 m 5 ls []) := by
    intro n1
    induction n1 with
    | zero => intro v0 v1 v2 v3 v5 hv0 hv1 hm1 hi1_0 hi1_1; exact absurd hm1 (by omega)
    | succ n1 ih1 =>
      intro v0 v1 v2 v3 v5 hv0 hv1 hm1 hi1_0 hi1_1 ls hl
      rw [f_X3_gainParts_5]
      refine lv_iload X.1 X.2.1 dX3_gainParts_5 (lv_at hl 4 rfl) ?_
      refine lv_iload_n X.1 X.2.1 dX3_gainParts_7 rfl (lv_at hl 2 rfl) ?_
      refine bi_gt (tgt := 41) X dX3_gainParts_8 (by decide) (fun c1 => ?_) (fun c1 => ?_)
      · skip
        have t2 : v2.toInt < v5.toInt := i_lt c1
        refine lv_lload_n X.1 X.2.1 dX3_gainParts_41 rfl (lv_at hl 3 rfl) ?_
        exact rL X hr hlk dX3_gainParts_42
      · skip
        have t3 : v5.toInt ≤ v2.toInt := i_nlt c1
        refine lv_lload_n X.1 X.2.1 dX3_gainParts_11 rfl (lv_at hl 3 rfl) ?_
        refine lv_aload_n X.1 X.2.1 dX3_gainParts_12 rfl (lv_at hl 0 rfl) ?_
        refine lv_aload_n X.1 X.2.1 dX3_gainParts_13 rfl (lv_at hl 1 rfl) ?_
        refine lv_iload X.1 X.2.1 dX3_gainParts_14 (lv_at hl 4 rfl) ?_
        refine cVI [.int v5] [.ref (G.2.2 v0), .long v3] X hw (c_X7_documentAt l G A M v1 hv1 v5) (cwV 1 X.2.2.2.2 gX3_gainParts_X7_documentAt rfl rfl rfl (by decide +kernel) ⟨Nat.le_of_ble_eq_true rfl, Nat.le_of_ble_eq_true rfl⟩) (hw.recv (lt98 (by have h9 := hv1; omega)) (hk_Row hv1) rfl) rfl rfl hl.1 (Nat.le_of_ble_eq_true rfl) dX3_gainParts_16 ?_
        refine tni (fun r4 er4 => ?_)
        refine cVI [.int r4] [.long v3] X hw (c_X6_gradeOf l G A M v0 hv0 r4) (cwV 1 X.2.2.2.2 gX3_gainParts_X6_gradeOf rfl rfl rfl (by decide +kernel) ⟨Nat.le_of_ble_eq_true rfl, Nat.le_of_ble_eq_true rfl⟩) (hw.recv (lt98 (by have h9 := hv0; omega)) (hk_Q hv0) rfl) rfl rfl hl.1 (Nat.le_of_ble_eq_true rfl) dX3_gainParts_19 ?_
        refine tni (fun r5 er5 => ?_)
        refine cSL [.int r5] [.long v3] X hw (c_X3_weightOf l G A M r5) (va_cwS 1 X.2.2.2.2 gX3_gainParts_X3_weightOf rfl rfl rfl (by decide +kernel) ⟨Nat.le_of_ble_eq_true rfl, Nat.le_of_ble_eq_true rfl⟩)  rfl rfl hl.1 (Nat.le_of_ble_eq_true rfl) dX3_gainParts_22 ?_
        refine tnl (fun r6 er6 => ?_)
        refine lv_ldc2 (v := 720720) X.1 X.2.1 X.2.2.2.1 (X.2.2.2.2 (.constantLong RX3 31 (720720)) (by decide +kernel)) dX3_gainParts_25 ?_
        refine lv_iload X.1 X.2.1 dX3_gainParts_28 (lv_at hl 4 rfl) ?_
        refine lv_i2l (v := v5.toInt64) X.1 X.2.1 dX3_gainParts_30 rfl ?_
        refine lv_ldiv X.1 X.2.1 dX3_gainParts_31 (i2l_nz (by omega)) ?_
        refine lv_lmul X.1 X.2.1 dX3_gainParts_32 ?_
        refine lv_ladd X.1 X.2.1 dX3_gainParts_33 ?_
        refine tnl (fun w7 ew7 => ?_)
        refine lv_lstore_n (lv' := [(3, .long w7), (0, .ref (G.2.2 v0)), (1, .ref (G.2.2 v1)), (2, .int v2), (5, .int v5)]) X.1 X.2.1 dX3_gainParts_34 rfl hl (by decide) rfl (fun ls hl => ?_)
        refine lv_iinc (v := (v5 + 1)) (lv' := [(5, .int (v5 + 1)), (3, .long w7), (0, .ref (G.2.2 v0)), (1, .ref (G.2.2 v1)), (2, .int v2)]) X.1 X.2.1 dX3_gainParts_35 hl (k := 4) rfl rfl (by decide) rfl (fun ls hl => ?_)
        refine lv_goto (tgt := 5) X.1 X.2.1 dX3_gainParts_38 (by decide) ?_
        have q8 := inc_sp v5
        exact ih1 v0 v1 v2 w7 (v5 + 1) hv0 hv1 (by omega) (by omega) (by omega)  ls (lv_sub hl [2, 3, 4, 1, 0] rfl)
  exact L1 ((a3.toInt - 1 + 1 : Int).toNat + 1) i1 i2 a3 0 1 hi1 hi2 (Nat.lt_succ_self _) (by first | omega | decide) (by first | omega | decide)  ls (lv_sub hl [2, 3, 4, 1, 0] rfl)

def f_X3_bestGainParts_25 (K : Int64 → Int32 → Int64) : Nat → Mem → Nat → Int32 → Int32 → Int32 → Int64 → Int32 → Int64
  | 0, M, _, _, _, _, _, _ => 0
  | n2 + 1, M, v0, v1, v5, x5, u2, u4 => if u4 < 1 then (K u2 u4) else (if x5 ≤ u4 then (K u2 u4) else (if v1 < u4 then (K u2 u4) else (bnd (f_X3_weightOf v5) (fun r15 => bnd (u2 + (r15 * (720720 / u4.toInt64))) (fun w16 => f_X3_bestGainParts_25 K n2 M v0 v1 v5 x5 w16 (u4 + 1))))))
def f_X3_bestGainParts_8 : Nat → Mem → Nat → Int32 → Int64 → Int32 → Int32 → Int64
  | 0, M, _, _, _, _, _ => 0
  | n1 + 1, M, v0, v1, v2, v4, v5 => if v5 < 1 then v2 else (bnd (f_X6_gradedWith M v0 v5) (fun r4 => bnd (v4 + r4) (fun x5 => f_X3_bestGainParts_25 (fun y2 y4 => f_X3_bestGainParts_8 n1 M v0 v1 y2 y4 (v5 + (-1))) ((v1.toInt - v4.toInt + 1 : Int).toNat + 1) M v0 v1 v5 x5 v2 v4)))
def f_X3_bestGainParts (M : Mem) (i1 : Nat) (a2 : Int32) : Int64 := f_X3_bestGainParts_8 4 M i1 a2 0 1 3
set_option maxRecDepth 100000 in
set_option maxHeartbeats 4000000 in
theorem c_X3_bestGainParts (l : Launch) (G : En) (A : Nat → Prop) (M : Mem) (i1 : Nat) (hi1 : 10 ≤ i1 ∧ i1 < 18) (a2 : Int32) (hk : a2.toInt ≤ 16) : RdL true l yX3_bestGainParts wsX3_bestGainParts ({ frames := 1, cells := 0, slots := 0, locals := 23 }) G A M [.ref (G.2.2 i1), .int a2] (f_X3_bestGainParts M i1 a2) := by
  refine RdL.of (cc := cX3_bestGainParts) (maxL := 7) (ret := (some .long)) (own := RX3) (by decide) rfl rfl (Nat.le_of_ble_eq_true rfl) ?_
  intro p e s m below meth c X hw hr hlk ls hl
  have hl : lv_has ls 7 [(0, .ref (G.2.2 i1)), (1, .int a2)] := hl
  unfold f_X3_bestGainParts
  refine lv_lconst (v := 0) X.1 X.2.1 dX3_bestGainParts_0 (by decide) ?_
  refine lv_lstore_n (lv' := [(2, .long 0), (0, .ref (G.2.2 i1)), (1, .int a2)]) X.1 X.2.1 dX3_bestGainParts_1 rfl hl (by decide) rfl (fun ls hl => ?_)
  refine lv_iconst (v := 1) X.1 X.2.1 dX3_bestGainParts_2 (by decide) ?_
  refine lv_istore (lv' := [(4, .int 1), (2, .long 0), (0, .ref (G.2.2 i1)), (1, .int a2)]) X.1 X.2.1 dX3_bestGainParts_3 hl (by decide) rfl (fun ls hl => ?_)
  refine lv_iconst (v := 3) X.1 X.2.1 dX3_bestGainParts_5 (by decide) ?_
  refine lv_istore (lv' := [(5, .int 3), (4, .int 1), (2, .long 0), (0, .ref (G.2.2 i1)), (1, .int a2)]) X.1 X.2.1 dX3_bestGainParts_6 hl (by decide) rfl (fun ls hl => ?_)
  have L1 : ∀ (n1 : Nat) (v0 : Nat) (v1 : Int32) (v2 : Int64) (v4 : Int32) (v5 : Int32) (hv0 : 10 ≤ v0 ∧ v0 < 18) (hm1 : (v5.toInt : Int).toNat < n1) (hi1_0 : v1.toInt ≤ 16) (hi1_1 : 1 ≤ v4.toInt) (hi1_2 : v5.toInt ≤ 3), ∀ ls : Array Slot, lv_has ls 7 [(0, .ref (G.2.2 v0)), (1, .int v1), (2, .long v2), (4, .int v4), (5, .int v5)] → W p l e ({ frames := 1, cells := 0, slots := 0, locals := 23 } : Room) s m ([.ref (G.2.2 i1), .int a2] : List Value).toArray below meth c s.heap [] 0 0 (TSl below ([.ref (G.2.2 i1), .int a2] : List Value).toArray s (f_X3_bestGainParts_8 n1 M v0 v1 v2 v4 v5)) (F0 m 8 ls []) := by
    intro n1
    induction n1 with
    | zero => intro v0 v1 v2 v4 v5 hv0 hm1 hi1_0 hi1_1 hi1_2; exact absurd hm1 (by omega)
    | succ n1 ih1 =>
      intro v0 v1 v2 v4 v5 hv0 hm1 hi1_0 hi1_1 hi1_2 ls hl
      rw [f_X3_bestGainParts_8]
      refine lv_iload X.1 X.2.1 dX3_bestGainParts_8 (lv_at hl 4 rfl) ?_
      refine lv_iconst (v := 1) X.1 X.2.1 dX3_bestGainParts_10 (by decide) ?_
      refine bi_lt (tgt := 72) X dX3_bestGainParts_11 (by decide) (fun c1 => ?_) (fun c1 => ?_)
      · skip
        have t2 : v5.toInt < 1 := i_lt c1
        refine lv_lload_n X.1 X.2.1 dX3_bestGainParts_72 rfl (lv_at hl 2 rfl) ?_
        exact rL X hr hlk dX3_bestGainParts_73
      · skip
        have t3 : 1 ≤ v5.toInt := i_nlt c1
        refine lv_iload X.1 X.2.1 dX3_bestGainParts_14 (lv_at hl 3 rfl) ?_
        refine lv_aload_n X.1 X.2.1 dX3_bestGainParts_16 rfl (lv_at hl 0 rfl) ?_
        refine lv_iload X.1 X.2.1 dX3_bestGainParts_17 (lv_at hl 4 rfl) ?_
        refine cVI [.int v5] [.int v4] X hw (c_X6_gradedWith l G A M v0 hv0 v5) (cwV 1 X.2.2.2.2 gX3_bestGainParts_X6_gradedWith rfl rfl rfl (by decide +kernel) ⟨Nat.le_of_ble_eq_true rfl, Nat.le_of_ble_eq_true rfl⟩) (hw.recv (lt98 (by have h9 := hv0; omega)) (hk_Q hv0) rfl) rfl rfl hl.1 (Nat.le_of_ble_eq_true rfl) dX3_bestGainParts_19 ?_
        refine tni (fun r4 er4 => ?_)
        refine lv_iadd X.1 X.2.1 dX3_bestGainParts_22 ?_
        refine tni (fun x5 ex5 => ?_)
        refine lv_istore (lv' := [(6, .int x5), (0, .ref (G.2.2 v0)), (1, .int v1), (2, .long v2), (4, .int v4), (5, .int v5)]) X.1 X.2.1 dX3_bestGainParts_23 hl (by decide) rfl (fun ls hl => ?_)
        have L2 : ∀ (K : Int64 → Int32 → Int64) (hK2 : ∀ (y2 : Int64) (y4 : Int32) (hx2_0 : 1 ≤ y4.toInt), ∀ ls : Array Slot, lv_has ls 7 [(0, .ref (G.2.2 v0)), (1, .int v1), (2, .long y2), (4, .int y4), (5, .int v5)] → W p l e ({ frames := 1, cells := 0, slots := 0, locals := 23 } : Room) s m ([.ref (G.2.2 i1), .int a2] : List Value).toArray below meth c s.heap [] 0 0 (TSl below ([.ref (G.2.2 i1), .int a2] : List Value).toArray s (K y2 y4)) (F0 m 66 ls [])) (n2 : Nat) (u2 : Int64) (u4 : Int32) (hm2 : (v1.toInt - u4.toInt + 1 : Int).toNat < n2) (hi2_0 : 1 ≤ u4.toInt), ∀ ls : Array Slot, lv_has ls 7 [(0, .ref (G.2.2 v0)), (1, .int v1), (2, .long u2), (4, .int u4), (5, .int v5), (6, .int x5)] → W p l e ({ frames := 1, cells := 0, slots := 0, locals := 23 } : Room) s m ([.ref (G.2.2 i1), .int a2] : List Value).toArray below meth c s.heap [] 0 0 (TSl below ([.ref (G.2.2 i1), .int a2] : List Value).toArray s (f_X3_bestGainParts_25 K n2 M v0 v1 v5 x5 u2 u4)) (F0 m 25 ls []) := by
          intro K hK2 n2
          induction n2 with
          | zero => intro u2 u4 hm2 hi2_0; exact absurd hm2 (by omega)
          | succ n2 ih2 =>
            intro u2 u4 hm2 hi2_0 ls hl
            rw [f_X3_bestGainParts_25]
            refine lv_iload X.1 X.2.1 dX3_bestGainParts_25 (lv_at hl 3 rfl) ?_
            refine lv_iconst (v := 1) X.1 X.2.1 dX3_bestGainParts_27 (by decide) ?_
            refine bi_lt (tgt := 66) X dX3_bestGainParts_28 (by decide) (fun c6 => ?_) (fun c6 => ?_)
            · skip
              have t7 : u4.toInt < 1 := i_lt c6
              exact hK2 u2 u4 (by omega)  ls (lv_sub hl [0, 1, 2, 3, 4] rfl)
            · skip
              have t8 : 1 ≤ u4.toInt := i_nlt c6
              refine lv_iload X.1 X.2.1 dX3_bestGainParts_31 (lv_at hl 3 rfl) ?_
              refine lv_iload X.1 X.2.1 dX3_bestGainParts_33 (lv_at hl 5 rfl) ?_
              refine bi_ge (tgt := 66) X dX3_bestGainParts_35 (by decide) (fun c9 => ?_) (fun c9 => ?_)
              · skip
                have t10 : x5.toInt ≤ u4.toInt := i_le c9
                exact hK2 u2 u4 (by omega)  ls (lv_sub hl [0, 1, 2, 3, 4] rfl)
              · skip
                have t11 : u4.toInt < x5.toInt := i_nle c9
                refine lv_iload X.1 X.2.1 dX3_bestGainParts_38 (lv_at hl 3 rfl) ?_
                refine lv_iload_n X.1 X.2.1 dX3_bestGainParts_40 rfl (lv_at hl 1 rfl) ?_
                refine bi_gt (tgt := 66) X dX3_bestGainParts_41 (by decide) (fun c12 => ?_) (fun c12 => ?_)
                · skip
                  have t13 : v1.toInt < u4.toInt := i_lt c12
                  exact hK2 u2 u4 (by omega)  ls (lv_sub hl [0, 1, 2, 3, 4] rfl)
                · skip
                  have t14 : u4.toInt ≤ v1.toInt := i_nlt c12
                  refine lv_lload_n X.1 X.2.1 dX3_bestGainParts_44 rfl (lv_at hl 2 rfl) ?_
                  refine lv_iload X.1 X.2.1 dX3_bestGainParts_45 (lv_at hl 4 rfl) ?_
                  refine cSL [.int v5] [.long u2] X hw (c_X3_weightOf l G A M v5) (va_cwS 1 X.2.2.2.2 gX3_bestGainParts_X3_weightOf rfl rfl rfl (by decide +kernel) ⟨Nat.le_of_ble_eq_true rfl, Nat.le_of_ble_eq_true rfl⟩)  rfl rfl hl.1 (Nat.le_of_ble_eq_true rfl) dX3_bestGainParts_47 ?_
                  refine tnl (fun r15 er15 => ?_)
                  refine lv_ldc2 (v := 720720) X.1 X.2.1 X.2.2.2.1 (X.2.2.2.2 (.constantLong RX3 31 (720720)) (by decide +kernel)) dX3_bestGainParts_50 ?_
                  refine lv_iload X.1 X.2.1 dX3_bestGainParts_53 (lv_at hl 3 rfl) ?_
                  refine lv_i2l (v := u4.toInt64) X.1 X.2.1 dX3_bestGainParts_55 rfl ?_
                  refine lv_ldiv X.1 X.2.1 dX3_bestGainParts_56 (i2l_nz (by omega)) ?_
                  refine lv_lmul X.1 X.2.1 dX3_bestGainParts_57 ?_
                  refine lv_ladd X.1 X.2.1 dX3_bestGainParts_58 ?_
                  refine tnl (fun w16 ew16 => ?_)
                  refine lv_lstore_n (lv' := [(2, .long w16), (0, .ref (G.2.2 v0)), (1, .int v1), (4, .int u4), (5, .int v5), (6, .int x5)]) X.1 X.2.1 dX3_bestGainParts_59 rfl hl (by decide) rfl (fun ls hl => ?_)
                  refine lv_iinc (v := (u4 + 1)) (lv' := [(4, .int (u4 + 1)), (2, .long w16), (0, .ref (G.2.2 v0)), (1, .int v1), (5, .int v5), (6, .int x5)]) X.1 X.2.1 dX3_bestGainParts_60 hl (k := 3) rfl rfl (by decide) rfl (fun ls hl => ?_)
                  refine lv_goto (tgt := 25) X.1 X.2.1 dX3_bestGainParts_63 (by decide) ?_
                  have q17 := inc_sp u4
                  exact ih2 w16 (u4 + 1) (by omega) (by omega)  ls (lv_sub hl [2, 3, 1, 0, 4, 5] rfl)
        refine L2 _ (fun y2 y4 hx2_0 ls hl => ?_) ((v1.toInt - v4.toInt + 1 : Int).toNat + 1) v2 v4 (Nat.lt_succ_self _) (by first | omega | decide)  ls (lv_sub hl [1, 2, 3, 4, 5, 0] rfl)
        refine lv_iinc (v := (v5 + (-1))) (lv' := [(5, .int (v5 + (-1))), (0, .ref (G.2.2 v0)), (1, .int v1), (2, .long y2), (4, .int y4)]) X.1 X.2.1 dX3_bestGainParts_66 hl (k := 4) rfl rfl (by decide) rfl (fun ls hl => ?_)
        refine lv_goto (tgt := 8) X.1 X.2.1 dX3_bestGainParts_69 (by decide) ?_
        exact ih1 v0 v1 y2 y4 (v5 + (-1)) hv0 (dn1 (by assumption) (by assumption)) (by omega) (by omega) (dn2 (by assumption) (by assumption))  ls (lv_sub hl [1, 2, 3, 4, 0] rfl)
  exact L1 4 i1 a2 0 1 3 hi1 (by decide) (by first | omega | decide) (by first | omega | decide) (by first | omega | decide)  ls (lv_sub hl [3, 4, 2, 1, 0] rfl)

def f_X3_putPreference_47 : Nat → Mem → Nat → Nat → Nat → Int32 → Int32 → Int32 → Int64 → Int32 → Int32 → Mem
  | 0, M, _, _, _, _, _, _, _, _, _ => M
  | n1 + 1, M, v0, v1, v2, v3, v4, v5, v6, v8, v9 => if v3 < v9 then (bnd (f_X1_become M v0 v6 (v5.toInt64 * v4.toInt64)) (fun M8 => M8)) else (bnd (f_X7_documentAt M v2 v9) (fun r10 => bnd (f_X6_gradeOf M v1 r10) (fun r11 => if r11 = 0 then (f_X3_putPreference_47 n1 M v0 v1 v2 v3 v4 v5 v6 (v8 + 1) (v9 + 1)) else (if r11 < 1 then (f_X3_putPreference_47 n1 M v0 v1 v2 v3 v4 v5 v6 v8 (v9 + 1)) else (bnd (if v5 < v8 then v5 else v8) (fun r18 => bnd (v6 + (v5 - r18).toInt64) (fun w19 => f_X3_putPreference_47 n1 M v0 v1 v2 v3 v4 v5 w19 v8 (v9 + 1))))))))
def f_X3_putPreference (M : Mem) (i1 : Nat) (i2 : Nat) (i3 : Nat) (a4 : Int32) : Mem := bnd (f_X6_goodOnes M i2) (fun r1 => bnd (f_X6_gradedWith M i2 0) (fun r2 => bnd (if r2 < r1 then r2 else r1) (fun r3 => if r3 = 0 then (bnd (f_X3_goodAmong M i2 i3 a4) (fun r25 => bnd (f_X1_become M i1 r25.toInt64 r1.toInt64) (fun M26 => M26))) else (f_X3_putPreference_47 ((a4.toInt - 1 + 1 : Int).toNat + 1) M i1 i2 i3 a4 r1 r3 0 0 1))))
set_option maxRecDepth 100000 in
set_option maxHeartbeats 4000000 in
theorem c_X3_putPreference (l : Launch) (G : En) (A : Nat → Prop) (M : Mem) (i1 : Nat) (hi1 : 2 ≤ i1 ∧ i1 < 5) (i2 : Nat) (hi2 : 10 ≤ i2 ∧ i2 < 18) (i3 : Nat) (hi3 : 34 ≤ i3 ∧ i3 < 66) (a4 : Int32) (hk : a4.toInt ≤ 16) : WrV true l yX3_putPreference wsX3_putPreference ({ frames := 3, cells := 0, slots := 0, locals := 71 }) G A M [.ref (G.2.2 i1), .ref (G.2.2 i2), .ref (G.2.2 i3), .int a4] (f_X3_putPreference M i1 i2 i3 a4) := by
  refine WrV.of (cc := cX3_putPreference) (maxL := 11) (ret := none) (own := RX3) (by decide) rfl rfl (Nat.le_of_ble_eq_true rfl) ?_
  intro p e s m below meth c X hw hr hlk ls hl hS
  have hl : lv_has ls 11 [(0, .ref (G.2.2 i1)), (1, .ref (G.2.2 i2)), (2, .ref (G.2.2 i3)), (3, .int a4)] := hl
  unfold f_X3_putPreference
  refine lv_aload_n X.1 X.2.1 dX3_putPreference_0 rfl (lv_at hl 1 rfl) ?_
  refine cVI [] [] X hw (c_X6_goodOnes l G A M i2 hi2) (cwV 0 X.2.2.2.2 gX3_putPreference_X6_goodOnes rfl rfl rfl (by decide +kernel) ⟨Nat.le_of_ble_eq_true rfl, Nat.le_of_ble_eq_true rfl⟩) (hw.recv (lt98 (by have h9 := hi2; omega)) (hk_Q hi2) rfl) rfl rfl hl.1 (Nat.le_of_ble_eq_true rfl) dX3_putPreference_1 ?_
  refine tni (fun r1 er1 => ?_)
  refine lv_istore (lv' := [(4, .int r1), (0, .ref (G.2.2 i1)), (1, .ref (G.2.2 i2)), (2, .ref (G.2.2 i3)), (3, .int a4)]) X.1 X.2.1 dX3_putPreference_4 hl (by decide) rfl (fun ls hl => ?_)
  refine lv_iload X.1 X.2.1 dX3_putPreference_6 (lv_at hl 0 rfl) ?_
  refine lv_aload_n X.1 X.2.1 dX3_putPreference_8 rfl (lv_at hl 2 rfl) ?_
  refine lv_iconst (v := 0) X.1 X.2.1 dX3_putPreference_9 (by decide) ?_
  refine cVI [.int 0] [.int r1] X hw (c_X6_gradedWith l G A M i2 hi2 0) (cwV 1 X.2.2.2.2 gX3_putPreference_X6_gradedWith rfl rfl rfl (by decide +kernel) ⟨Nat.le_of_ble_eq_true rfl, Nat.le_of_ble_eq_true rfl⟩) (hw.recv (lt98 (by have h9 := hi2; omega)) (hk_Q hi2) rfl) rfl rfl hl.1 (Nat.le_of_ble_eq_true rfl) dX3_putPreference_10 ?_
  refine tni (fun r2 er2 => ?_)
  refine va_mmin X.1 X.2.1 (X.2.2.1.trans hl.1.symm) X.2.2.2.1 (X.2.2.2.2 (.methodLink RX3 52 Lib.Math.min.name) (by decide +kernel)) (X.2.2.2.2 (.static Lib.Math.min.name) (by decide +kernel)) (X.2.2.2.2 (.initialized "java/lang/Math") (by decide +kernel)) (X.2.2.2.2 (.code Lib.Math.min.name Lib.Math.min.code 2 (some .int)) (by decide +kernel)) (Nat.le_of_ble_eq_true rfl) (Nat.le_of_ble_eq_true rfl) (Nat.zero_le _) (Nat.zero_le _) dX3_putPreference_13 ?_
  refine tni (fun r3 er3 => ?_)
  refine lv_istore (lv' := [(5, .int r3), (4, .int r1), (0, .ref (G.2.2 i1)), (1, .ref (G.2.2 i2)), (2, .ref (G.2.2 i3)), (3, .int a4)]) X.1 X.2.1 dX3_putPreference_16 hl (by decide) rfl (fun ls hl => ?_)
  refine lv_iload X.1 X.2.1 dX3_putPreference_18 (lv_at hl 0 rfl) ?_
  refine bz_ne (tgt := 38) X dX3_putPreference_20 (by decide) (fun c4 => ?_) (fun c4 => ?_)
  · skip
    have t5 : ¬ r3.toInt = 0 := i_ne c4
    refine lv_lconst (v := 0) X.1 X.2.1 dX3_putPreference_38 (by decide) ?_
    refine lv_lstore (lv' := [(6, .long 0), (5, .int r3), (4, .int r1), (0, .ref (G.2.2 i1)), (1, .ref (G.2.2 i2)), (2, .ref (G.2.2 i3)), (3, .int a4)]) X.1 X.2.1 dX3_putPreference_39 hl (by decide) rfl (fun ls hl => ?_)
    refine lv_iconst (v := 0) X.1 X.2.1 dX3_putPreference_41 (by decide) ?_
    refine lv_istore (lv' := [(8, .int 0), (6, .long 0), (5, .int r3), (4, .int r1), (0, .ref (G.2.2 i1)), (1, .ref (G.2.2 i2)), (2, .ref (G.2.2 i3)), (3, .int a4)]) X.1 X.2.1 dX3_putPreference_42 hl (by decide) rfl (fun ls hl => ?_)
    refine lv_iconst (v := 1) X.1 X.2.1 dX3_putPreference_44 (by decide) ?_
    refine lv_istore (lv' := [(9, .int 1), (8, .int 0), (6, .long 0), (5, .int r3), (4, .int r1), (0, .ref (G.2.2 i1)), (1, .ref (G.2.2 i2)), (2, .ref (G.2.2 i3)), (3, .int a4)]) X.1 X.2.1 dX3_putPreference_45 hl (by decide) rfl (fun ls hl => ?_)
    have L1 : ∀ (n1 : Nat) (v0 : Nat) (v1 : Nat) (v2 : Nat) (v3 : Int32) (v4 : Int32) (v5 : Int32) (v6 : Int64) (v8 : Int32) (v9 : Int32) (hv0 : 2 ≤ v0 ∧ v0 < 5) (hv1 : 10 ≤ v1 ∧ v1 < 18) (hv2 : 34 ≤ v2 ∧ v2 < 66) (hm1 : (v3.toInt - v9.toInt + 1 : Int).toNat < n1) (hi1_0 : v3.toInt ≤ 16) (hi1_1 : 1 ≤ v9.toInt), ∀ (H : Heap) (locs : List Loc), WD true G A M s H → va_S A s.heap H locs → ∀ ls : Array Slot, lv_has ls 11 [(0, .ref (G.2.2 v0)), (1, .ref (G.2.2 v1)), (2, .ref (G.2.2 v2)), (3, .int v3), (4, .int v4), (5, .int v5), (6, .long v6), (8, .int v8), (9, .int v9)] → W p l e ({ frames := 3, cells := 0, slots := 0, locals := 71 } : Room) s m ([.ref (G.2.2 i1), .ref (G.2.2 i2), .ref (G.2.2 i3), .int a4] : List Value).toArray below meth c H locs 0 0 (TQv true G A below ([.ref (G.2.2 i1), .ref (G.2.2 i2), .ref (G.2.2 i3), .int a4] : List Value).toArray s (f_X3_putPreference_47 n1 M v0 v1 v2 v3 v4 v5 v6 v8 v9)) (F0 m 47 ls []) := by
      intro n1
      induction n1 with
      | zero => intro v0 v1 v2 v3 v4 v5 v6 v8 v9 hv0 hv1 hv2 hm1 hi1_0 hi1_1; exact absurd hm1 (by omega)
      | succ n1 ih1 =>
        intro v0 v1 v2 v3 v4 v5 v6 v8 v9 hv0 hv1 hv2 hm1 hi1_0 hi1_1 H locs hw hS ls hl
        rw [f_X3_putPreference_47]
        refine lv_iload X.1 X.2.1 dX3_putPreference_47 (lv_at hl 8 rfl) ?_
        refine lv_iload_n X.1 X.2.1 dX3_putPreference_49 rfl (lv_at hl 3 rfl) ?_
        refine bi_gt (tgt := 104) X dX3_putPreference_50 (by decide) (fun c6 => ?_) (fun c6 => ?_)
        · skip
          have t7 : v3.toInt < v9.toInt := i_lt c6
          refine lv_aload_n X.1 X.2.1 dX3_putPreference_104 rfl (lv_at hl 0 rfl) ?_
          refine lv_lload X.1 X.2.1 dX3_putPreference_105 (lv_at hl 6 rfl) ?_
          refine lv_iload X.1 X.2.1 dX3_putPreference_107 (lv_at hl 5 rfl) ?_
          refine lv_i2l (v := v5.toInt64) X.1 X.2.1 dX3_putPreference_109 rfl ?_
          refine lv_iload X.1 X.2.1 dX3_putPreference_110 (lv_at hl 4 rfl) ?_
          refine lv_i2l (v := v4.toInt64) X.1 X.2.1 dX3_putPreference_112 rfl ?_
          refine lv_lmul X.1 X.2.1 dX3_putPreference_113 ?_
          refine cVW [.long v6, .long (v5.toInt64 * v4.toInt64)] [] X hw hS (c_X1_become l G A M v0 hv0 v6 (v5.toInt64 * v4.toInt64)) (cwV 2 X.2.2.2.2 gX3_putPreference_X1_become rfl rfl rfl (by decide +kernel) ⟨Nat.le_of_ble_eq_true rfl, Nat.le_of_ble_eq_true rfl⟩) (hw.recv (lt98 (by have h9 := hv0; omega)) (hk_Fr hv0) rfl) rfl rfl hl.1 (Nat.le_of_ble_eq_true rfl) dX3_putPreference_114 (fun H locs hw hS => ?_)
          refine tpb (fun M8 eM8 => ?_)
          rw [← eM8] at hw
          exact rV X hr hlk hw hS dX3_putPreference_117
        · skip
          have t9 : v9.toInt ≤ v3.toInt := i_nlt c6
          refine lv_aload_n X.1 X.2.1 dX3_putPreference_53 rfl (lv_at hl 1 rfl) ?_
          refine lv_aload_n X.1 X.2.1 dX3_putPreference_54 rfl (lv_at hl 2 rfl) ?_
          refine lv_iload X.1 X.2.1 dX3_putPreference_55 (lv_at hl 8 rfl) ?_
          refine cVI [.int v9] [.ref (G.2.2 v1)] X hw (c_X7_documentAt l G A M v2 hv2 v9) (cwV 1 X.2.2.2.2 gX3_putPreference_X7_documentAt rfl rfl rfl (by decide +kernel) ⟨Nat.le_of_ble_eq_true rfl, Nat.le_of_ble_eq_true rfl⟩) (hw.recv (lt98 (by have h9 := hv2; omega)) (hk_Row hv2) rfl) rfl rfl hl.1 (Nat.le_of_ble_eq_true rfl) dX3_putPreference_57 ?_
          refine tni (fun r10 er10 => ?_)
          refine cVI [.int r10] [] X hw (c_X6_gradeOf l G A M v1 hv1 r10) (cwV 1 X.2.2.2.2 gX3_putPreference_X6_gradeOf rfl rfl rfl (by decide +kernel) ⟨Nat.le_of_ble_eq_true rfl, Nat.le_of_ble_eq_true rfl⟩) (hw.recv (lt98 (by have h9 := hv1; omega)) (hk_Q hv1) rfl) rfl rfl hl.1 (Nat.le_of_ble_eq_true rfl) dX3_putPreference_60 ?_
          refine tni (fun r11 er11 => ?_)
          refine lv_istore (lv' := [(10, .int r11), (0, .ref (G.2.2 v0)), (1, .ref (G.2.2 v1)), (2, .ref (G.2.2 v2)), (3, .int v3), (4, .int v4), (5, .int v5), (6, .long v6), (8, .int v8), (9, .int v9)]) X.1 X.2.1 dX3_putPreference_63 hl (by decide) rfl (fun ls hl => ?_)
          refine lv_iload X.1 X.2.1 dX3_putPreference_65 (lv_at hl 0 rfl) ?_
          refine bz_ne (tgt := 76) X dX3_putPreference_67 (by decide) (fun c12 => ?_) (fun c12 => ?_)
          · skip
            have t13 : ¬ r11.toInt = 0 := i_ne c12
            refine lv_iload X.1 X.2.1 dX3_putPreference_76 (lv_at hl 0 rfl) ?_
            refine lv_iconst (v := 1) X.1 X.2.1 dX3_putPreference_78 (by decide) ?_
            refine bi_lt (tgt := 98) X dX3_putPreference_79 (by decide) (fun c14 => ?_) (fun c14 => ?_)
            · skip
              have t15 : r11.toInt < 1 := i_lt c14
              refine lv_iinc (v := (v9 + 1)) (lv' := [(9, .int (v9 + 1)), (10, .int r11), (0, .ref (G.2.2 v0)), (1, .ref (G.2.2 v1)), (2, .ref (G.2.2 v2)), (3, .int v3), (4, .int v4), (5, .int v5), (6, .long v6), (8, .int v8)]) X.1 X.2.1 dX3_putPreference_98 hl (k := 9) rfl rfl (by decide) rfl (fun ls hl => ?_)
              refine lv_goto (tgt := 47) X.1 X.2.1 dX3_putPreference_101 (by decide) ?_
              have q16 := inc_sp v9
              exact ih1 v0 v1 v2 v3 v4 v5 v6 v8 (v9 + 1) hv0 hv1 hv2 (by omega) (by omega) (by omega) _ _ hw hS ls (lv_sub hl [2, 3, 4, 5, 6, 7, 8, 9, 0] rfl)
            · skip
              have t17 : 1 ≤ r11.toInt := i_nlt c14
              refine lv_lload X.1 X.2.1 dX3_putPreference_82 (lv_at hl 7 rfl) ?_
              refine lv_iload X.1 X.2.1 dX3_putPreference_84 (lv_at hl 6 rfl) ?_
              refine lv_iload X.1 X.2.1 dX3_putPreference_86 (lv_at hl 8 rfl) ?_
              refine lv_iload X.1 X.2.1 dX3_putPreference_88 (lv_at hl 6 rfl) ?_
              refine va_mmin X.1 X.2.1 (X.2.2.1.trans hl.1.symm) X.2.2.2.1 (X.2.2.2.2 (.methodLink RX3 52 Lib.Math.min.name) (by decide +kernel)) (X.2.2.2.2 (.static Lib.Math.min.name) (by decide +kernel)) (X.2.2.2.2 (.initialized "java/lang/Math") (by decide +kernel)) (X.2.2.2.2 (.code Lib.Math.min.name Lib.Math.min.code 2 (some .int)) (by decide +kernel)) (Nat.le_of_ble_eq_true rfl) (Nat.le_of_ble_eq_true rfl) (Nat.zero_le _) (Nat.zero_le _) dX3_putPreference_90 ?_
              refine tni (fun r18 er18 => ?_)
              refine lv_isub X.1 X.2.1 dX3_putPreference_93 ?_
              refine lv_i2l (v := (v5 - r18).toInt64) X.1 X.2.1 dX3_putPreference_94 rfl ?_
              refine lv_ladd X.1 X.2.1 dX3_putPreference_95 ?_
              refine tnl (fun w19 ew19 => ?_)
              refine lv_lstore (lv' := [(6, .long w19), (10, .int r11), (0, .ref (G.2.2 v0)), (1, .ref (G.2.2 v1)), (2, .ref (G.2.2 v2)), (3, .int v3), (4, .int v4), (5, .int v5), (8, .int v8), (9, .int v9)]) X.1 X.2.1 dX3_putPreference_96 hl (by decide) rfl (fun ls hl => ?_)
              refine lv_iinc (v := (v9 + 1)) (lv' := [(9, .int (v9 + 1)), (6, .long w19), (10, .int r11), (0, .ref (G.2.2 v0)), (1, .ref (G.2.2 v1)), (2, .ref (G.2.2 v2)), (3, .int v3), (4, .int v4), (5, .int v5), (8, .int v8)]) X.1 X.2.1 dX3_putPreference_98 hl (k := 9) rfl rfl (by decide) rfl (fun ls hl => ?_)
              refine lv_goto (tgt := 47) X.1 X.2.1 dX3_putPreference_101 (by decide) ?_
              have q20 := inc_sp v9
              exact ih1 v0 v1 v2 v3 v4 v5 w19 v8 (v9 + 1) hv0 hv1 hv2 (by omega) (by omega) (by omega) _ _ hw hS ls (lv_sub hl [3, 4, 5, 6, 7, 8, 1, 9, 0] rfl)
          · skip
            have t21 : r11.toInt = 0 := i_eq c12
            refine lv_iinc (v := (v8 + 1)) (lv' := [(8, .int (v8 + 1)), (10, .int r11), (0, .ref (G.2.2 v0)), (1, .ref (G.2.2 v1)), (2, .ref (G.2.2 v2)), (3, .int v3), (4, .int v4), (5, .int v5), (6, .long v6), (9, .int v9)]) X.1 X.2.1 dX3_putPreference_70 hl (k := 8) rfl rfl (by decide) rfl (fun ls hl => ?_)
            refine lv_goto (tgt := 98) X.1 X.2.1 dX3_putPreference_73 (by decide) ?_
            refine lv_iinc (v := (v9 + 1)) (lv' := [(9, .int (v9 + 1)), (8, .int (v8 + 1)), (10, .int r11), (0, .ref (G.2.2 v0)), (1, .ref (G.2.2 v1)), (2, .ref (G.2.2 v2)), (3, .int v3), (4, .int v4), (5, .int v5), (6, .long v6)]) X.1 X.2.1 dX3_putPreference_98 hl (k := 9) rfl rfl (by decide) rfl (fun ls hl => ?_)
            refine lv_goto (tgt := 47) X.1 X.2.1 dX3_putPreference_101 (by decide) ?_
            have q22 := inc_sp v8
            have q23 := inc_sp v9
            exact ih1 v0 v1 v2 v3 v4 v5 v6 (v8 + 1) (v9 + 1) hv0 hv1 hv2 (by omega) (by omega) (by omega) _ _ hw hS ls (lv_sub hl [3, 4, 5, 6, 7, 8, 9, 1, 0] rfl)
    exact L1 ((a4.toInt - 1 + 1 : Int).toNat + 1) i1 i2 i3 a4 r1 r3 0 0 1 hi1 hi2 hi3 (Nat.lt_succ_self _) (by first | omega | decide) (by first | omega | decide) _ _ hw hS ls (lv_sub hl [5, 6, 7, 8, 4, 3, 2, 1, 0] rfl)
  · skip
    have t24 : r3.toInt = 0 := i_eq c4
    refine lv_aload_n X.1 X.2.1 dX3_putPreference_23 rfl (lv_at hl 2 rfl) ?_
    refine lv_aload_n X.1 X.2.1 dX3_putPreference_24 rfl (lv_at hl 3 rfl) ?_
    refine lv_aload_n X.1 X.2.1 dX3_putPreference_25 rfl (lv_at hl 4 rfl) ?_
    refine lv_iload_n X.1 X.2.1 dX3_putPreference_26 rfl (lv_at hl 5 rfl) ?_
    refine cSI [.ref (G.2.2 i2), .ref (G.2.2 i3), .int a4] [.ref (G.2.2 i1)] X hw (c_X3_goodAmong l G A M i2 hi2 i3 hi3 a4 hk) (va_cwS 3 X.2.2.2.2 gX3_putPreference_X3_goodAmong rfl rfl rfl (by decide +kernel) ⟨Nat.le_of_ble_eq_true rfl, Nat.le_of_ble_eq_true rfl⟩)  rfl rfl hl.1 (Nat.le_of_ble_eq_true rfl) dX3_putPreference_27 ?_
    refine tni (fun r25 er25 => ?_)
    refine lv_i2l (v := r25.toInt64) X.1 X.2.1 dX3_putPreference_30 rfl ?_
    refine lv_iload X.1 X.2.1 dX3_putPreference_31 (lv_at hl 1 rfl) ?_
    refine lv_i2l (v := r1.toInt64) X.1 X.2.1 dX3_putPreference_33 rfl ?_
    refine cVW [.long r25.toInt64, .long r1.toInt64] [] X hw hS (c_X1_become l G A M i1 hi1 r25.toInt64 r1.toInt64) (cwV 2 X.2.2.2.2 gX3_putPreference_X1_become rfl rfl rfl (by decide +kernel) ⟨Nat.le_of_ble_eq_true rfl, Nat.le_of_ble_eq_true rfl⟩) (hw.recv (lt98 (by have h9 := hi1; omega)) (hk_Fr hi1) rfl) rfl rfl hl.1 (Nat.le_of_ble_eq_true rfl) dX3_putPreference_34 (fun H locs hw hS => ?_)
    refine tpb (fun M26 eM26 => ?_)
    rw [← eM26] at hw
    exact rV X hr hlk hw hS dX3_putPreference_37

def f_X3_put (M : Mem) (i1 : Nat) (i2 : Nat) (i3 : Nat) (a4 : Int32) (a5 : Int32) : Mem := bnd (f_X3_goodAmong M i2 i3 a5) (fun r1 => if a4 = 0 then (bnd (f_X1_become M i1 r1.toInt64 a5.toInt64) (fun M3 => M3)) else (if a4 = 1 then (bnd (f_X6_goodOnes M i2) (fun r5 => bnd (f_X1_become M i1 r1.toInt64 r5.toInt64) (fun M6 => M6))) else (if a4 = 2 then (bnd (f_X3_averageParts M i2 i3 a5) (fun r8 => bnd (f_X6_goodOnes M i2) (fun r9 => bnd (f_X1_become M i1 r8 (720720 * r9.toInt64)) (fun M10 => M10)))) else (if a4 = 3 then (bnd (f_X3_firstGoodRank M i2 i3 a5) (fun r12 => bnd (f_X1_become M i1 1 r12.toInt64) (fun M13 => M13))) else (if a4 = 4 then (bnd (f_X3_gainParts M i2 i3 a5) (fun r15 => bnd (f_X1_become M i1 r15 720720) (fun M16 => M16))) else (if a4 = 5 then (bnd (f_X3_gainParts M i2 i3 a5) (fun r18 => bnd (f_X3_bestGainParts M i2 a5) (fun r19 => bnd (f_X1_become M i1 r18 r19) (fun M20 => M20)))) else (if a4 = 6 then (bnd (f_X3_putPreference M i1 i2 i3 a5) (fun M22 => M22)) else (if a4 = 7 then (bnd (f_X7_size M i3) (fun r24 => bnd (if r24 < a5 then r24 else a5) (fun r25 => bnd (f_X3_judgedAmong M i2 i3 a5) (fun r26 => bnd (f_X1_become M i1 ((r25 - r26).toInt64) 1) (fun M27 => M27))))) else (if a4 = 8 then (bnd (f_X3_judgedAmong M i2 i3 a5) (fun r29 => bnd (f_X1_become M i1 r1.toInt64 r29.toInt64) (fun M30 => M30))) else (bnd (f_X1_become M i1 0 1) (fun M31 => M31)))))))))))
set_option maxRecDepth 100000 in
set_option maxHeartbeats 4000000 in
theorem c_X3_put (l : Launch) (G : En) (A : Nat → Prop) (M : Mem) (i1 : Nat) (hi1 : 2 ≤ i1 ∧ i1 < 5) (i2 : Nat) (hi2 : 10 ≤ i2 ∧ i2 < 18) (i3 : Nat) (hi3 : 34 ≤ i3 ∧ i3 < 66) (a4 : Int32) (a5 : Int32) (hk : a5.toInt ≤ 16) : WrV true l yX3_put wsX3_put ({ frames := 4, cells := 0, slots := 0, locals := 101 }) G A M [.ref (G.2.2 i1), .ref (G.2.2 i2), .ref (G.2.2 i3), .int a4, .int a5] (f_X3_put M i1 i2 i3 a4 a5) := by
  refine WrV.of (cc := cX3_put) (maxL := 6) (ret := none) (own := RX3) (by decide) rfl rfl (Nat.le_of_ble_eq_true rfl) ?_
  intro p e s m below meth c X hw hr hlk ls hl hS
  have hl : lv_has ls 6 [(0, .ref (G.2.2 i1)), (1, .ref (G.2.2 i2)), (2, .ref (G.2.2 i3)), (3, .int a4), (4, .int a5)] := hl
  unfold f_X3_put
  refine lv_aload_n X.1 X.2.1 dX3_put_0 rfl (lv_at hl 1 rfl) ?_
  refine lv_aload_n X.1 X.2.1 dX3_put_1 rfl (lv_at hl 2 rfl) ?_
  refine lv_iload X.1 X.2.1 dX3_put_2 (lv_at hl 4 rfl) ?_
  refine cSI [.ref (G.2.2 i2), .ref (G.2.2 i3), .int a5] [] X hw (c_X3_goodAmong l G A M i2 hi2 i3 hi3 a5 hk) (va_cwS 3 X.2.2.2.2 gX3_put_X3_goodAmong rfl rfl rfl (by decide +kernel) ⟨Nat.le_of_ble_eq_true rfl, Nat.le_of_ble_eq_true rfl⟩)  rfl rfl hl.1 (Nat.le_of_ble_eq_true rfl) dX3_put_4 ?_
  refine tni (fun r1 er1 => ?_)
  refine lv_istore (lv' := [(5, .int r1), (0, .ref (G.2.2 i1)), (1, .ref (G.2.2 i2)), (2, .ref (G.2.2 i3)), (3, .int a4), (4, .int a5)]) X.1 X.2.1 dX3_put_7 hl (by decide) rfl (fun ls hl => ?_)
  refine lv_iload_n X.1 X.2.1 dX3_put_9 rfl (lv_at hl 4 rfl) ?_
  by_cases c2 : a4 = 0
  · refine tpp c2 ?_
    refine lv_tableIn (tgt := 60) X.1 X.2.1 dX3_put_10 (by rw [c2]; decide) (by rw [c2]; decide) (off := 50) (by rw [c2]; decide) (by decide) ?_
    refine lv_aload_n X.1 X.2.1 dX3_put_60 rfl (lv_at hl 1 rfl) ?_
    refine lv_iload X.1 X.2.1 dX3_put_61 (lv_at hl 0 rfl) ?_
    refine lv_i2l (v := r1.toInt64) X.1 X.2.1 dX3_put_63 rfl ?_
    refine lv_iload X.1 X.2.1 dX3_put_64 (lv_at hl 5 rfl) ?_
    refine lv_i2l (v := a5.toInt64) X.1 X.2.1 dX3_put_66 rfl ?_
    refine cVW [.long r1.toInt64, .long a5.toInt64] [] X hw hS (c_X1_become l G A M i1 hi1 r1.toInt64 a5.toInt64) (cwV 2 X.2.2.2.2 gX3_put_X1_become rfl rfl rfl (by decide +kernel) ⟨Nat.le_of_ble_eq_true rfl, Nat.le_of_ble_eq_true rfl⟩) (hw.recv (lt98 (by have h9 := hi1; omega)) (hk_Fr hi1) rfl) rfl rfl hl.1 (Nat.le_of_ble_eq_true rfl) dX3_put_67 (fun H locs hw hS => ?_)
    refine tpb (fun M3 eM3 => ?_)
    rw [← eM3] at hw
    refine lv_goto (tgt := 225) X.1 X.2.1 dX3_put_70 (by decide) ?_
    exact rV X hr hlk hw hS dX3_put_225
  refine tpn c2 ?_
  by_cases c4 : a4 = 1
  · refine tpp c4 ?_
    refine lv_tableIn (tgt := 73) X.1 X.2.1 dX3_put_10 (by rw [c4]; decide) (by rw [c4]; decide) (off := 63) (by rw [c4]; decide) (by decide) ?_
    refine lv_aload_n X.1 X.2.1 dX3_put_73 rfl (lv_at hl 1 rfl) ?_
    refine lv_iload X.1 X.2.1 dX3_put_74 (lv_at hl 0 rfl) ?_
    refine lv_i2l (v := r1.toInt64) X.1 X.2.1 dX3_put_76 rfl ?_
    refine lv_aload_n X.1 X.2.1 dX3_put_77 rfl (lv_at hl 2 rfl) ?_
    refine cVI [] [.long r1.toInt64, .ref (G.2.2 i1)] X hw (c_X6_goodOnes l G A M i2 hi2) (cwV 0 X.2.2.2.2 gX3_put_X6_goodOnes rfl rfl rfl (by decide +kernel) ⟨Nat.le_of_ble_eq_true rfl, Nat.le_of_ble_eq_true rfl⟩) (hw.recv (lt98 (by have h9 := hi2; omega)) (hk_Q hi2) rfl) rfl rfl hl.1 (Nat.le_of_ble_eq_true rfl) dX3_put_78 ?_
    refine tni (fun r5 er5 => ?_)
    refine lv_i2l (v := r5.toInt64) X.1 X.2.1 dX3_put_81 rfl ?_
    refine cVW [.long r1.toInt64, .long r5.toInt64] [] X hw hS (c_X1_become l G A M i1 hi1 r1.toInt64 r5.toInt64) (cwV 2 X.2.2.2.2 gX3_put_X1_become rfl rfl rfl (by decide +kernel) ⟨Nat.le_of_ble_eq_true rfl, Nat.le_of_ble_eq_true rfl⟩) (hw.recv (lt98 (by have h9 := hi1; omega)) (hk_Fr hi1) rfl) rfl rfl hl.1 (Nat.le_of_ble_eq_true rfl) dX3_put_82 (fun H locs hw hS => ?_)
    refine tpb (fun M6 eM6 => ?_)
    rw [← eM6] at hw
    refine lv_goto (tgt := 225) X.1 X.2.1 dX3_put_85 (by decide) ?_
    exact rV X hr hlk hw hS dX3_put_225
  refine tpn c4 ?_
  by_cases c7 : a4 = 2
  · refine tpp c7 ?_
    refine lv_tableIn (tgt := 88) X.1 X.2.1 dX3_put_10 (by rw [c7]; decide) (by rw [c7]; decide) (off := 78) (by rw [c7]; decide) (by decide) ?_
    refine lv_aload_n X.1 X.2.1 dX3_put_88 rfl (lv_at hl 1 rfl) ?_
    refine lv_aload_n X.1 X.2.1 dX3_put_89 rfl (lv_at hl 2 rfl) ?_
    refine lv_aload_n X.1 X.2.1 dX3_put_90 rfl (lv_at hl 3 rfl) ?_
    refine lv_iload X.1 X.2.1 dX3_put_91 (lv_at hl 5 rfl) ?_
    refine cSL [.ref (G.2.2 i2), .ref (G.2.2 i3), .int a5] [.ref (G.2.2 i1)] X hw (c_X3_averageParts l G A M i2 hi2 i3 hi3 a5 hk) (va_cwS 3 X.2.2.2.2 gX3_put_X3_averageParts rfl rfl rfl (by decide +kernel) ⟨Nat.le_of_ble_eq_true rfl, Nat.le_of_ble_eq_true rfl⟩)  rfl rfl hl.1 (Nat.le_of_ble_eq_true rfl) dX3_put_93 ?_
    refine tnl (fun r8 er8 => ?_)
    refine lv_ldc2 (v := 720720) X.1 X.2.1 X.2.2.2.1 (X.2.2.2.2 (.constantLong RX3 31 (720720)) (by decide +kernel)) dX3_put_96 ?_
    refine lv_aload_n X.1 X.2.1 dX3_put_99 rfl (lv_at hl 2 rfl) ?_
    refine cVI [] [.long 720720, .long r8, .ref (G.2.2 i1)] X hw (c_X6_goodOnes l G A M i2 hi2) (cwV 0 X.2.2.2.2 gX3_put_X6_goodOnes rfl rfl rfl (by decide +kernel) ⟨Nat.le_of_ble_eq_true rfl, Nat.le_of_ble_eq_true rfl⟩) (hw.recv (lt98 (by have h9 := hi2; omega)) (hk_Q hi2) rfl) rfl rfl hl.1 (Nat.le_of_ble_eq_true rfl) dX3_put_100 ?_
    refine tni (fun r9 er9 => ?_)
    refine lv_i2l (v := r9.toInt64) X.1 X.2.1 dX3_put_103 rfl ?_
    refine lv_lmul X.1 X.2.1 dX3_put_104 ?_
    refine cVW [.long r8, .long (720720 * r9.toInt64)] [] X hw hS (c_X1_become l G A M i1 hi1 r8 (720720 * r9.toInt64)) (cwV 2 X.2.2.2.2 gX3_put_X1_become rfl rfl rfl (by decide +kernel) ⟨Nat.le_of_ble_eq_true rfl, Nat.le_of_ble_eq_true rfl⟩) (hw.recv (lt98 (by have h9 := hi1; omega)) (hk_Fr hi1) rfl) rfl rfl hl.1 (Nat.le_of_ble_eq_true rfl) dX3_put_105 (fun H locs hw hS => ?_)
    refine tpb (fun M10 eM10 => ?_)
    rw [← eM10] at hw
    refine lv_goto (tgt := 225) X.1 X.2.1 dX3_put_108 (by decide) ?_
    exact rV X hr hlk hw hS dX3_put_225
  refine tpn c7 ?_
  by_cases c11 : a4 = 3
  · refine tpp c11 ?_
    refine lv_tableIn (tgt := 111) X.1 X.2.1 dX3_put_10 (by rw [c11]; decide) (by rw [c11]; decide) (off := 101) (by rw [c11]; decide) (by decide) ?_
    refine lv_aload_n X.1 X.2.1 dX3_put_111 rfl (lv_at hl 1 rfl) ?_
    refine lv_lconst (v := 1) X.1 X.2.1 dX3_put_112 (by decide) ?_
    refine lv_aload_n X.1 X.2.1 dX3_put_113 rfl (lv_at hl 2 rfl) ?_
    refine lv_aload_n X.1 X.2.1 dX3_put_114 rfl (lv_at hl 3 rfl) ?_
    refine lv_iload X.1 X.2.1 dX3_put_115 (lv_at hl 5 rfl) ?_
    refine cSI [.ref (G.2.2 i2), .ref (G.2.2 i3), .int a5] [.long 1, .ref (G.2.2 i1)] X hw (c_X3_firstGoodRank l G A M i2 hi2 i3 hi3 a5 hk) (va_cwS 3 X.2.2.2.2 gX3_put_X3_firstGoodRank rfl rfl rfl (by decide +kernel) ⟨Nat.le_of_ble_eq_true rfl, Nat.le_of_ble_eq_true rfl⟩)  rfl rfl hl.1 (Nat.le_of_ble_eq_true rfl) dX3_put_117 ?_
    refine tni (fun r12 er12 => ?_)
    refine lv_i2l (v := r12.toInt64) X.1 X.2.1 dX3_put_120 rfl ?_
    refine cVW [.long 1, .long r12.toInt64] [] X hw hS (c_X1_become l G A M i1 hi1 1 r12.toInt64) (cwV 2 X.2.2.2.2 gX3_put_X1_become rfl rfl rfl (by decide +kernel) ⟨Nat.le_of_ble_eq_true rfl, Nat.le_of_ble_eq_true rfl⟩) (hw.recv (lt98 (by have h9 := hi1; omega)) (hk_Fr hi1) rfl) rfl rfl hl.1 (Nat.le_of_ble_eq_true rfl) dX3_put_121 (fun H locs hw hS => ?_)
    refine tpb (fun M13 eM13 => ?_)
    rw [← eM13] at hw
    refine lv_goto (tgt := 225) X.1 X.2.1 dX3_put_124 (by decide) ?_
    exact rV X hr hlk hw hS dX3_put_225
  refine tpn c11 ?_
  by_cases c14 : a4 = 4
  · refine tpp c14 ?_
    refine lv_tableIn (tgt := 127) X.1 X.2.1 dX3_put_10 (by rw [c14]; decide) (by rw [c14]; decide) (off := 117) (by rw [c14]; decide) (by decide) ?_
    refine lv_aload_n X.1 X.2.1 dX3_put_127 rfl (lv_at hl 1 rfl) ?_
    refine lv_aload_n X.1 X.2.1 dX3_put_128 rfl (lv_at hl 2 rfl) ?_
    refine lv_aload_n X.1 X.2.1 dX3_put_129 rfl (lv_at hl 3 rfl) ?_
    refine lv_iload X.1 X.2.1 dX3_put_130 (lv_at hl 5 rfl) ?_
    refine cSL [.ref (G.2.2 i2), .ref (G.2.2 i3), .int a5] [.ref (G.2.2 i1)] X hw (c_X3_gainParts l G A M i2 hi2 i3 hi3 a5 hk) (va_cwS 3 X.2.2.2.2 gX3_put_X3_gainParts rfl rfl rfl (by decide +kernel) ⟨Nat.le_of_ble_eq_true rfl, Nat.le_of_ble_eq_true rfl⟩)  rfl rfl hl.1 (Nat.le_of_ble_eq_true rfl) dX3_put_132 ?_
    refine tnl (fun r15 er15 => ?_)
    refine lv_ldc2 (v := 720720) X.1 X.2.1 X.2.2.2.1 (X.2.2.2.2 (.constantLong RX3 31 (720720)) (by decide +kernel)) dX3_put_135 ?_
    refine cVW [.long r15, .long 720720] [] X hw hS (c_X1_become l G A M i1 hi1 r15 720720) (cwV 2 X.2.2.2.2 gX3_put_X1_become rfl rfl rfl (by decide +kernel) ⟨Nat.le_of_ble_eq_true rfl, Nat.le_of_ble_eq_true rfl⟩) (hw.recv (lt98 (by have h9 := hi1; omega)) (hk_Fr hi1) rfl) rfl rfl hl.1 (Nat.le_of_ble_eq_true rfl) dX3_put_138 (fun H locs hw hS => ?_)
    refine tpb (fun M16 eM16 => ?_)
    rw [← eM16] at hw
    refine lv_goto (tgt := 225) X.1 X.2.1 dX3_put_141 (by decide) ?_
    exact rV X hr hlk hw hS dX3_put_225
  refine tpn c14 ?_
  by_cases c17 : a4 = 5
  · refine tpp c17 ?_
    refine lv_tableIn (tgt := 144) X.1 X.2.1 dX3_put_10 (by rw [c17]; decide) (by rw [c17]; decide) (off := 134) (by rw [c17]; decide) (by decide) ?_
    refine lv_aload_n X.1 X.2.1 dX3_put_144 rfl (lv_at hl 1 rfl) ?_
    refine lv_aload_n X.1 X.2.1 dX3_put_145 rfl (lv_at hl 2 rfl) ?_
    refine lv_aload_n X.1 X.2.1 dX3_put_146 rfl (lv_at hl 3 rfl) ?_
    refine lv_iload X.1 X.2.1 dX3_put_147 (lv_at hl 5 rfl) ?_
    refine cSL [.ref (G.2.2 i2), .ref (G.2.2 i3), .int a5] [.ref (G.2.2 i1)] X hw (c_X3_gainParts l G A M i2 hi2 i3 hi3 a5 hk) (va_cwS 3 X.2.2.2.2 gX3_put_X3_gainParts rfl rfl rfl (by decide +kernel) ⟨Nat.le_of_ble_eq_true rfl, Nat.le_of_ble_eq_true rfl⟩)  rfl rfl hl.1 (Nat.le_of_ble_eq_true rfl) dX3_put_149 ?_
    refine tnl (fun r18 er18 => ?_)
    refine lv_aload_n X.1 X.2.1 dX3_put_152 rfl (lv_at hl 2 rfl) ?_
    refine lv_iload X.1 X.2.1 dX3_put_153 (lv_at hl 5 rfl) ?_
    refine cSL [.ref (G.2.2 i2), .int a5] [.long r18, .ref (G.2.2 i1)] X hw (c_X3_bestGainParts l G A M i2 hi2 a5 hk) (va_cwS 2 X.2.2.2.2 gX3_put_X3_bestGainParts rfl rfl rfl (by decide +kernel) ⟨Nat.le_of_ble_eq_true rfl, Nat.le_of_ble_eq_true rfl⟩)  rfl rfl hl.1 (Nat.le_of_ble_eq_true rfl) dX3_put_155 ?_
    refine tnl (fun r19 er19 => ?_)
    refine cVW [.long r18, .long r19] [] X hw hS (c_X1_become l G A M i1 hi1 r18 r19) (cwV 2 X.2.2.2.2 gX3_put_X1_become rfl rfl rfl (by decide +kernel) ⟨Nat.le_of_ble_eq_true rfl, Nat.le_of_ble_eq_true rfl⟩) (hw.recv (lt98 (by have h9 := hi1; omega)) (hk_Fr hi1) rfl) rfl rfl hl.1 (Nat.le_of_ble_eq_true rfl) dX3_put_158 (fun H locs hw hS => ?_)
    refine tpb (fun M20 eM20 => ?_)
    rw [← eM20] at hw
    refine lv_goto (tgt := 225) X.1 X.2.1 dX3_put_161 (by decide) ?_
    exact rV X hr hlk hw hS dX3_put_225
  refine tpn c17 ?_
  by_cases c21 : a4 = 6
  · refine tpp c21 ?_
    refine lv_tableIn (tgt := 164) X.1 X.2.1 dX3_put_10 (by rw [c21]; decide) (by rw [c21]; decide) (off := 154) (by rw [c21]; decide) (by decide) ?_
    refine lv_aload_n X.1 X.2.1 dX3_put_164 rfl (lv_at hl 1 rfl) ?_
    refine lv_aload_n X.1 X.2.1 dX3_put_165 rfl (lv_at hl 2 rfl) ?_
    refine lv_aload_n X.1 X.2.1 dX3_put_166 rfl (lv_at hl 3 rfl) ?_
    refine lv_iload X.1 X.2.1 dX3_put_167 (lv_at hl 5 rfl) ?_
    refine cSW [.ref (G.2.2 i1), .ref (G.2.2 i2), .ref (G.2.2 i3), .int a5] [] X hw hS (c_X3_putPreference l G A M i1 hi1 i2 hi2 i3 hi3 a5 hk) (va_cwS 4 X.2.2.2.2 gX3_put_X3_putPreference rfl rfl rfl (by decide +kernel) ⟨Nat.le_of_ble_eq_true rfl, Nat.le_of_ble_eq_true rfl⟩)  rfl rfl hl.1 (Nat.le_of_ble_eq_true rfl) dX3_put_169 (fun H locs hw hS => ?_)
    refine tpb (fun M22 eM22 => ?_)
    rw [← eM22] at hw
    refine lv_goto (tgt := 225) X.1 X.2.1 dX3_put_172 (by decide) ?_
    exact rV X hr hlk hw hS dX3_put_225
  refine tpn c21 ?_
  by_cases c23 : a4 = 7
  · refine tpp c23 ?_
    refine lv_tableIn (tgt := 175) X.1 X.2.1 dX3_put_10 (by rw [c23]; decide) (by rw [c23]; decide) (off := 165) (by rw [c23]; decide) (by decide) ?_
    refine lv_aload_n X.1 X.2.1 dX3_put_175 rfl (lv_at hl 1 rfl) ?_
    refine lv_iload X.1 X.2.1 dX3_put_176 (lv_at hl 5 rfl) ?_
    refine lv_aload_n X.1 X.2.1 dX3_put_178 rfl (lv_at hl 3 rfl) ?_
    refine cVI [] [.int a5, .ref (G.2.2 i1)] X hw (c_X7_size l G A M i3 hi3) (cwV 0 X.2.2.2.2 gX3_put_X7_size rfl rfl rfl (by decide +kernel) ⟨Nat.le_of_ble_eq_true rfl, Nat.le_of_ble_eq_true rfl⟩) (hw.recv (lt98 (by have h9 := hi3; omega)) (hk_Row hi3) rfl) rfl rfl hl.1 (Nat.le_of_ble_eq_true rfl) dX3_put_179 ?_
    refine tni (fun r24 er24 => ?_)
    refine va_mmin X.1 X.2.1 (X.2.2.1.trans hl.1.symm) X.2.2.2.1 (X.2.2.2.2 (.methodLink RX3 52 Lib.Math.min.name) (by decide +kernel)) (X.2.2.2.2 (.static Lib.Math.min.name) (by decide +kernel)) (X.2.2.2.2 (.initialized "java/lang/Math") (by decide +kernel)) (X.2.2.2.2 (.code Lib.Math.min.name Lib.Math.min.code 2 (some .int)) (by decide +kernel)) (Nat.le_of_ble_eq_true rfl) (Nat.le_of_ble_eq_true rfl) (Nat.zero_le _) (Nat.zero_le _) dX3_put_182 ?_
    refine tni (fun r25 er25 => ?_)
    refine lv_aload_n X.1 X.2.1 dX3_put_185 rfl (lv_at hl 2 rfl) ?_
    refine lv_aload_n X.1 X.2.1 dX3_put_186 rfl (lv_at hl 3 rfl) ?_
    refine lv_iload X.1 X.2.1 dX3_put_187 (lv_at hl 5 rfl) ?_
    refine cSI [.ref (G.2.2 i2), .ref (G.2.2 i3), .int a5] [.int r25, .ref (G.2.2 i1)] X hw (c_X3_judgedAmong l G A M i2 hi2 i3 hi3 a5 hk) (va_cwS 3 X.2.2.2.2 gX3_put_X3_judgedAmong rfl rfl rfl (by decide +kernel) ⟨Nat.le_of_ble_eq_true rfl, Nat.le_of_ble_eq_true rfl⟩)  rfl rfl hl.1 (Nat.le_of_ble_eq_true rfl) dX3_put_189 ?_
    refine tni (fun r26 er26 => ?_)
    refine lv_isub X.1 X.2.1 dX3_put_192 ?_
    refine lv_i2l (v := (r25 - r26).toInt64) X.1 X.2.1 dX3_put_193 rfl ?_
    refine lv_lconst (v := 1) X.1 X.2.1 dX3_put_194 (by decide) ?_
    refine cVW [.long ((r25 - r26).toInt64), .long 1] [] X hw hS (c_X1_become l G A M i1 hi1 (r25 - r26).toInt64 1) (cwV 2 X.2.2.2.2 gX3_put_X1_become rfl rfl rfl (by decide +kernel) ⟨Nat.le_of_ble_eq_true rfl, Nat.le_of_ble_eq_true rfl⟩) (hw.recv (lt98 (by have h9 := hi1; omega)) (hk_Fr hi1) rfl) rfl rfl hl.1 (Nat.le_of_ble_eq_true rfl) dX3_put_195 (fun H locs hw hS => ?_)
    refine tpb (fun M27 eM27 => ?_)
    rw [← eM27] at hw
    refine lv_goto (tgt := 225) X.1 X.2.1 dX3_put_198 (by decide) ?_
    exact rV X hr hlk hw hS dX3_put_225
  refine tpn c23 ?_
  by_cases c28 : a4 = 8
  · refine tpp c28 ?_
    refine lv_tableIn (tgt := 201) X.1 X.2.1 dX3_put_10 (by rw [c28]; decide) (by rw [c28]; decide) (off := 191) (by rw [c28]; decide) (by decide) ?_
    refine lv_aload_n X.1 X.2.1 dX3_put_201 rfl (lv_at hl 1 rfl) ?_
    refine lv_iload X.1 X.2.1 dX3_put_202 (lv_at hl 0 rfl) ?_
    refine lv_i2l (v := r1.toInt64) X.1 X.2.1 dX3_put_204 rfl ?_
    refine lv_aload_n X.1 X.2.1 dX3_put_205 rfl (lv_at hl 2 rfl) ?_
    refine lv_aload_n X.1 X.2.1 dX3_put_206 rfl (lv_at hl 3 rfl) ?_
    refine lv_iload X.1 X.2.1 dX3_put_207 (lv_at hl 5 rfl) ?_
    refine cSI [.ref (G.2.2 i2), .ref (G.2.2 i3), .int a5] [.long r1.toInt64, .ref (G.2.2 i1)] X hw (c_X3_judgedAmong l G A M i2 hi2 i3 hi3 a5 hk) (va_cwS 3 X.2.2.2.2 gX3_put_X3_judgedAmong rfl rfl rfl (by decide +kernel) ⟨Nat.le_of_ble_eq_true rfl, Nat.le_of_ble_eq_true rfl⟩)  rfl rfl hl.1 (Nat.le_of_ble_eq_true rfl) dX3_put_209 ?_
    refine tni (fun r29 er29 => ?_)
    refine lv_i2l (v := r29.toInt64) X.1 X.2.1 dX3_put_212 rfl ?_
    refine cVW [.long r1.toInt64, .long r29.toInt64] [] X hw hS (c_X1_become l G A M i1 hi1 r1.toInt64 r29.toInt64) (cwV 2 X.2.2.2.2 gX3_put_X1_become rfl rfl rfl (by decide +kernel) ⟨Nat.le_of_ble_eq_true rfl, Nat.le_of_ble_eq_true rfl⟩) (hw.recv (lt98 (by have h9 := hi1; omega)) (hk_Fr hi1) rfl) rfl rfl hl.1 (Nat.le_of_ble_eq_true rfl) dX3_put_213 (fun H locs hw hS => ?_)
    refine tpb (fun M30 eM30 => ?_)
    rw [← eM30] at hw
    refine lv_goto (tgt := 225) X.1 X.2.1 dX3_put_216 (by decide) ?_
    exact rV X hr hlk hw hS dX3_put_225
  refine tpn c28 ?_
  refine lv_tableOut (tgt := 219) X.1 X.2.1 dX3_put_10 (by have z0 := i_ne c2; have z0 : ¬ a4.toInt = 0 := z0; have z1 := i_ne c4; have z1 : ¬ a4.toInt = 1 := z1; have z2 := i_ne c7; have z2 : ¬ a4.toInt = 2 := z2; have z3 := i_ne c11; have z3 : ¬ a4.toInt = 3 := z3; have z4 := i_ne c14; have z4 : ¬ a4.toInt = 4 := z4; have z5 := i_ne c17; have z5 : ¬ a4.toInt = 5 := z5; have z6 := i_ne c21; have z6 : ¬ a4.toInt = 6 := z6; have z7 := i_ne c23; have z7 : ¬ a4.toInt = 7 := z7; have z8 := i_ne c28; have z8 : ¬ a4.toInt = 8 := z8; omega) (by decide) ?_
  refine lv_aload_n X.1 X.2.1 dX3_put_219 rfl (lv_at hl 1 rfl) ?_
  refine lv_lconst (v := 0) X.1 X.2.1 dX3_put_220 (by decide) ?_
  refine lv_lconst (v := 1) X.1 X.2.1 dX3_put_221 (by decide) ?_
  refine cVW [.long 0, .long 1] [] X hw hS (c_X1_become l G A M i1 hi1 0 1) (cwV 2 X.2.2.2.2 gX3_put_X1_become rfl rfl rfl (by decide +kernel) ⟨Nat.le_of_ble_eq_true rfl, Nat.le_of_ble_eq_true rfl⟩) (hw.recv (lt98 (by have h9 := hi1; omega)) (hk_Fr hi1) rfl) rfl rfl hl.1 (Nat.le_of_ble_eq_true rfl) dX3_put_222 (fun H locs hw hS => ?_)
  refine tpb (fun M31 eM31 => ?_)
  rw [← eM31] at hw
  exact rV X hr hlk hw hS dX3_put_225
