/-! 16.pairs -/
def f_X5_sharedAmong_5 : Nat → Mem → Nat → Nat → Int32 → Int32 → Int32 → Int32
  | 0, M, _, _, _, _, _ => 0
  | n1 + 1, M, v0, v1, v2, v3, v4 => if v2 < v4 then v3 else (bnd (f_X7_size M v0) (fun r4 => if r4 < v4 then v3 else (bnd (f_X7_documentAt M v0 v4) (fun r8 => bnd (f_X7_hasAmongFirst M v1 v2 r8) (fun r9 => if r9 = 0 then (f_X5_sharedAmong_5 n1 M v0 v1 v2 v3 (v4 + 1)) else (f_X5_sharedAmong_5 n1 M v0 v1 v2 (v3 + 1) (v4 + 1)))))))
def f_X5_sharedAmong (M : Mem) (i1 : Nat) (i2 : Nat) (a3 : Int32) : Int32 := f_X5_sharedAmong_5 ((a3.toInt - 1 + 1 : Int).toNat + 1) M i1 i2 a3 0 1
set_option maxRecDepth 100000 in
set_option maxHeartbeats 4000000 in
theorem c_X5_sharedAmong (l : Launch) (G : En) (A : Nat → Prop) (M : Mem) (i1 : Nat) (hi1 : 34 ≤ i1 ∧ i1 < 66) (i2 : Nat) (hi2 : 34 ≤ i2 ∧ i2 < 66) (a3 : Int32) (hk : a3.toInt ≤ 16) : RdI true l yX5_sharedAmong wsX5_sharedAmong ({ frames := 2, cells := 0, slots := 0, locals := 45 }) G A M [.ref (G.2.2 i1), .ref (G.2.2 i2), .int a3] (f_X5_sharedAmong M i1 i2 a3) := by
  refine RdI.of (cc := cX5_sharedAmong) (maxL := 5) (ret := (some .int)) (own := RX5) (by decide) rfl rfl (Nat.le_of_ble_eq_true rfl) ?_
  intro p e s m below meth c X hw hr hlk ls hl
  have hl : lv_has ls 5 [(0, .ref (G.2.2 i1)), (1, .ref (G.2.2 i2)), (2, .int a3)] := hl
  unfold f_X5_sharedAmong
  refine lv_iconst (v := 0) X.1 X.2.1 dX5_sharedAmong_0 (by decide) ?_
  refine lv_istore_n (lv' := [(3, .int 0), (0, .ref (G.2.2 i1)), (1, .ref (G.2.2 i2)), (2, .int a3)]) X.1 X.2.1 dX5_sharedAmong_1 rfl hl (by decide) rfl (fun ls hl => ?_)
  refine lv_iconst (v := 1) X.1 X.2.1 dX5_sharedAmong_2 (by decide) ?_
  refine lv_istore (lv' := [(4, .int 1), (3, .int 0), (0, .ref (G.2.2 i1)), (1, .ref (G.2.2 i2)), (2, .int a3)]) X.1 X.2.1 dX5_sharedAmong_3 hl (by decide) rfl (fun ls hl => ?_)
  have L1 : ∀ (n1 : Nat) (v0 : Nat) (v1 : Nat) (v2 : Int32) (v3 : Int32) (v4 : Int32) (hv0 : 34 ≤ v0 ∧ v0 < 66) (hv1 : 34 ≤ v1 ∧ v1 < 66) (hm1 : (v2.toInt - v4.toInt + 1 : Int).toNat < n1) (hi1_0 : v2.toInt ≤ 16) (hi1_1 : 1 ≤ v4.toInt), ∀ ls : Array Slot, lv_has ls 5 [(0, .ref (G.2.2 v0)), (1, .ref (G.2.2 v1)), (2, .int v2), (3, .int v3), (4, .int v4)] → W p l e ({ frames := 2, cells := 0, slots := 0, locals := 45 } : Room) s m ([.ref (G.2.2 i1), .ref (G.2.2 i2), .int a3] : List Value).toArray below meth c s.heap [] 0 0 (TSi below ([.ref (G.2.2 i1), .ref (G.2.2 i2), .int a3] : List Value).toArray s (f_X5_sharedAmong_5 n1 M v0 v1 v2 v3 v4)) (F0 m 5 ls []) := by
    intro n1
    induction n1 with
    | zero => intro v0 v1 v2 v3 v4 hv0 hv1 hm1 hi1_0 hi1_1; exact absurd hm1 (by omega)
    | succ n1 ih1 =>
      intro v0 v1 v2 v3 v4 hv0 hv1 hm1 hi1_0 hi1_1 ls hl
      rw [f_X5_sharedAmong_5]
      refine lv_iload X.1 X.2.1 dX5_sharedAmong_5 (lv_at hl 4 rfl) ?_
      refine lv_iload_n X.1 X.2.1 dX5_sharedAmong_7 rfl (lv_at hl 2 rfl) ?_
      refine bi_gt (tgt := 43) X dX5_sharedAmong_8 (by decide) (fun c1 => ?_) (fun c1 => ?_)
      · skip
        have t2 : v2.toInt < v4.toInt := i_lt c1
        refine lv_iload_n X.1 X.2.1 dX5_sharedAmong_43 rfl (lv_at hl 3 rfl) ?_
        exact rI X hr hlk dX5_sharedAmong_44
      · skip
        have t3 : v4.toInt ≤ v2.toInt := i_nlt c1
        refine lv_iload X.1 X.2.1 dX5_sharedAmong_11 (lv_at hl 4 rfl) ?_
        refine lv_aload_n X.1 X.2.1 dX5_sharedAmong_13 rfl (lv_at hl 0 rfl) ?_
        refine cVI [] [.int v4] X hw (c_X7_size l G A M v0 hv0) (cwV 0 X.2.2.2.2 gX5_sharedAmong_X7_size rfl rfl rfl (by decide +kernel) ⟨Nat.le_of_ble_eq_true rfl, Nat.le_of_ble_eq_true rfl⟩) (hw.recv (lt98 (by have h9 := hv0; omega)) (hk_Row hv0) rfl) rfl rfl hl.1 (Nat.le_of_ble_eq_true rfl) dX5_sharedAmong_14 ?_
        refine tni (fun r4 er4 => ?_)
        refine bi_gt (tgt := 43) X dX5_sharedAmong_17 (by decide) (fun c5 => ?_) (fun c5 => ?_)
        · skip
          have t6 : r4.toInt < v4.toInt := i_lt c5
          refine lv_iload_n X.1 X.2.1 dX5_sharedAmong_43 rfl (lv_at hl 3 rfl) ?_
          exact rI X hr hlk dX5_sharedAmong_44
        · skip
          have t7 : v4.toInt ≤ r4.toInt := i_nlt c5
          refine lv_aload_n X.1 X.2.1 dX5_sharedAmong_20 rfl (lv_at hl 1 rfl) ?_
          refine lv_iload_n X.1 X.2.1 dX5_sharedAmong_21 rfl (lv_at hl 2 rfl) ?_
          refine lv_aload_n X.1 X.2.1 dX5_sharedAmong_22 rfl (lv_at hl 0 rfl) ?_
          refine lv_iload X.1 X.2.1 dX5_sharedAmong_23 (lv_at hl 4 rfl) ?_
          refine cVI [.int v4] [.int v2, .ref (G.2.2 v1)] X hw (c_X7_documentAt l G A M v0 hv0 v4) (cwV 1 X.2.2.2.2 gX5_sharedAmong_X7_documentAt rfl rfl rfl (by decide +kernel) ⟨Nat.le_of_ble_eq_true rfl, Nat.le_of_ble_eq_true rfl⟩) (hw.recv (lt98 (by have h9 := hv0; omega)) (hk_Row hv0) rfl) rfl rfl hl.1 (Nat.le_of_ble_eq_true rfl) dX5_sharedAmong_25 ?_
          refine tni (fun r8 er8 => ?_)
          refine cVI [.int v2, .int r8] [] X hw (c_X7_hasAmongFirst l G A M v1 hv1 v2 r8) (cwV 2 X.2.2.2.2 gX5_sharedAmong_X7_hasAmongFirst rfl rfl rfl (by decide +kernel) ⟨Nat.le_of_ble_eq_true rfl, Nat.le_of_ble_eq_true rfl⟩) (hw.recv (lt98 (by have h9 := hv1; omega)) (hk_Row hv1) rfl) rfl rfl hl.1 (Nat.le_of_ble_eq_true rfl) dX5_sharedAmong_28 ?_
          refine tni (fun r9 er9 => ?_)
          refine bz_eq (tgt := 37) X dX5_sharedAmong_31 (by decide) (fun c10 => ?_) (fun c10 => ?_)
          · skip
            have t11 : r9.toInt = 0 := i_eq c10
            refine lv_iinc (v := (v4 + 1)) (lv' := [(4, .int (v4 + 1)), (0, .ref (G.2.2 v0)), (1, .ref (G.2.2 v1)), (2, .int v2), (3, .int v3)]) X.1 X.2.1 dX5_sharedAmong_37 hl (k := 4) rfl rfl (by decide) rfl (fun ls hl => ?_)
            refine lv_goto (tgt := 5) X.1 X.2.1 dX5_sharedAmong_40 (by decide) ?_
            have q12 := inc_sp v4
            exact ih1 v0 v1 v2 v3 (v4 + 1) hv0 hv1 (by omega) (by omega) (by omega)  ls (lv_sub hl [1, 2, 3, 4, 0] rfl)
          · skip
            have t13 : ¬ r9.toInt = 0 := i_ne c10
            refine lv_iinc (v := (v3 + 1)) (lv' := [(3, .int (v3 + 1)), (0, .ref (G.2.2 v0)), (1, .ref (G.2.2 v1)), (2, .int v2), (4, .int v4)]) X.1 X.2.1 dX5_sharedAmong_34 hl (k := 3) rfl rfl (by decide) rfl (fun ls hl => ?_)
            refine lv_iinc (v := (v4 + 1)) (lv' := [(4, .int (v4 + 1)), (3, .int (v3 + 1)), (0, .ref (G.2.2 v0)), (1, .ref (G.2.2 v1)), (2, .int v2)]) X.1 X.2.1 dX5_sharedAmong_37 hl (k := 4) rfl rfl (by decide) rfl (fun ls hl => ?_)
            refine lv_goto (tgt := 5) X.1 X.2.1 dX5_sharedAmong_40 (by decide) ?_
            have q14 := inc_sp v3
            have q15 := inc_sp v4
            exact ih1 v0 v1 v2 (v3 + 1) (v4 + 1) hv0 hv1 (by omega) (by omega) (by omega)  ls (lv_sub hl [2, 3, 4, 1, 0] rfl)
  exact L1 ((a3.toInt - 1 + 1 : Int).toNat + 1) i1 i2 a3 0 1 hi1 hi2 (Nat.lt_succ_self _) (by first | omega | decide) (by first | omega | decide)  ls (lv_sub hl [2, 3, 4, 1, 0] rfl)

def f_X5_putOverlap_6 : Nat → Mem → Nat → Nat → Nat → Int32 → Int64 → Int32 → Mem
  | 0, M, _, _, _, _, _, _ => M
  | n1 + 1, M, v0, v1, v2, v3, v4, v6 => if v3 < v6 then (bnd (f_X1_become M v0 v4 (720720 * v3.toInt64)) (fun M3 => M3)) else (bnd (f_X5_sharedAmong M v1 v2 v6) (fun r5 => bnd (v4 + (r5.toInt64 * (720720 / v6.toInt64))) (fun w6 => f_X5_putOverlap_6 n1 M v0 v1 v2 v3 w6 (v6 + 1))))
def f_X5_putOverlap (M : Mem) (i1 : Nat) (i2 : Nat) (i3 : Nat) (a4 : Int32) : Mem := f_X5_putOverlap_6 ((a4.toInt - 1 + 1 : Int).toNat + 1) M i1 i2 i3 a4 0 1
set_option maxRecDepth 100000 in
set_option maxHeartbeats 4000000 in
theorem c_X5_putOverlap (l : Launch) (G : En) (A : Nat → Prop) (M : Mem) (i1 : Nat) (hi1 : 2 ≤ i1 ∧ i1 < 5) (i2 : Nat) (hi2 : 34 ≤ i2 ∧ i2 < 66) (i3 : Nat) (hi3 : 34 ≤ i3 ∧ i3 < 66) (a4 : Int32) (hk : a4.toInt ≤ 16) : WrV true l yX5_putOverlap wsX5_putOverlap ({ frames := 3, cells := 0, slots := 0, locals := 71 }) G A M [.ref (G.2.2 i1), .ref (G.2.2 i2), .ref (G.2.2 i3), .int a4] (f_X5_putOverlap M i1 i2 i3 a4) := by
  refine WrV.of (cc := cX5_putOverlap) (maxL := 7) (ret := none) (own := RX5) (by decide) rfl rfl (Nat.le_of_ble_eq_true rfl) ?_
  intro p e s m below meth c X hw hr hlk ls hl hS
  have hl : lv_has ls 7 [(0, .ref (G.2.2 i1)), (1, .ref (G.2.2 i2)), (2, .ref (G.2.2 i3)), (3, .int a4)] := hl
  unfold f_X5_putOverlap
  refine lv_lconst (v := 0) X.1 X.2.1 dX5_putOverlap_0 (by decide) ?_
  refine lv_lstore (lv' := [(4, .long 0), (0, .ref (G.2.2 i1)), (1, .ref (G.2.2 i2)), (2, .ref (G.2.2 i3)), (3, .int a4)]) X.1 X.2.1 dX5_putOverlap_1 hl (by decide) rfl (fun ls hl => ?_)
  refine lv_iconst (v := 1) X.1 X.2.1 dX5_putOverlap_3 (by decide) ?_
  refine lv_istore (lv' := [(6, .int 1), (4, .long 0), (0, .ref (G.2.2 i1)), (1, .ref (G.2.2 i2)), (2, .ref (G.2.2 i3)), (3, .int a4)]) X.1 X.2.1 dX5_putOverlap_4 hl (by decide) rfl (fun ls hl => ?_)
  have L1 : ∀ (n1 : Nat) (v0 : Nat) (v1 : Nat) (v2 : Nat) (v3 : Int32) (v4 : Int64) (v6 : Int32) (hv0 : 2 ≤ v0 ∧ v0 < 5) (hv1 : 34 ≤ v1 ∧ v1 < 66) (hv2 : 34 ≤ v2 ∧ v2 < 66) (hm1 : (v3.toInt - v6.toInt + 1 : Int).toNat < n1) (hi1_0 : v3.toInt ≤ 16) (hi1_1 : 1 ≤ v6.toInt), ∀ (H : Heap) (locs : List Loc), WD true G A M s H → va_S A s.heap H locs → ∀ ls : Array Slot, lv_has ls 7 [(0, .ref (G.2.2 v0)), (1, .ref (G.2.2 v1)), (2, .ref (G.2.2 v2)), (3, .int v3), (4, .long v4), (6, .int v6)] → W p l e ({ frames := 3, cells := 0, slots := 0, locals := 71 } : Room) s m ([.ref (G.2.2 i1), .ref (G.2.2 i2), .ref (G.2.2 i3), .int a4] : List Value).toArray below meth c H locs 0 0 (TQv true G A below ([.ref (G.2.2 i1), .ref (G.2.2 i2), .ref (G.2.2 i3), .int a4] : List Value).toArray s (f_X5_putOverlap_6 n1 M v0 v1 v2 v3 v4 v6)) (F0 m 6 ls []) := by
    intro n1
    induction n1 with
    | zero => intro v0 v1 v2 v3 v4 v6 hv0 hv1 hv2 hm1 hi1_0 hi1_1; exact absurd hm1 (by omega)
    | succ n1 ih1 =>
      intro v0 v1 v2 v3 v4 v6 hv0 hv1 hv2 hm1 hi1_0 hi1_1 H locs hw hS ls hl
      rw [f_X5_putOverlap_6]
      refine lv_iload X.1 X.2.1 dX5_putOverlap_6 (lv_at hl 5 rfl) ?_
      refine lv_iload_n X.1 X.2.1 dX5_putOverlap_8 rfl (lv_at hl 3 rfl) ?_
      refine bi_gt (tgt := 39) X dX5_putOverlap_9 (by decide) (fun c1 => ?_) (fun c1 => ?_)
      · skip
        have t2 : v3.toInt < v6.toInt := i_lt c1
        refine lv_aload_n X.1 X.2.1 dX5_putOverlap_39 rfl (lv_at hl 0 rfl) ?_
        refine lv_lload X.1 X.2.1 dX5_putOverlap_40 (lv_at hl 4 rfl) ?_
        refine lv_ldc2 (v := 720720) X.1 X.2.1 X.2.2.2.1 (X.2.2.2.2 (.constantLong RX5 34 (720720)) (by decide +kernel)) dX5_putOverlap_42 ?_
        refine lv_iload_n X.1 X.2.1 dX5_putOverlap_45 rfl (lv_at hl 3 rfl) ?_
        refine lv_i2l (v := v3.toInt64) X.1 X.2.1 dX5_putOverlap_46 rfl ?_
        refine lv_lmul X.1 X.2.1 dX5_putOverlap_47 ?_
        refine cVW [.long v4, .long (720720 * v3.toInt64)] [] X hw hS (c_X1_become l G A M v0 hv0 v4 (720720 * v3.toInt64)) (cwV 2 X.2.2.2.2 gX5_putOverlap_X1_become rfl rfl rfl (by decide +kernel) ⟨Nat.le_of_ble_eq_true rfl, Nat.le_of_ble_eq_true rfl⟩) (hw.recv (lt98 (by have h9 := hv0; omega)) (hk_Fr hv0) rfl) rfl rfl hl.1 (Nat.le_of_ble_eq_true rfl) dX5_putOverlap_48 (fun H locs hw hS => ?_)
        refine tpb (fun M3 eM3 => ?_)
        rw [← eM3] at hw
        exact rV X hr hlk hw hS dX5_putOverlap_51
      · skip
        have t4 : v6.toInt ≤ v3.toInt := i_nlt c1
        refine lv_lload X.1 X.2.1 dX5_putOverlap_12 (lv_at hl 4 rfl) ?_
        refine lv_aload_n X.1 X.2.1 dX5_putOverlap_14 rfl (lv_at hl 1 rfl) ?_
        refine lv_aload_n X.1 X.2.1 dX5_putOverlap_15 rfl (lv_at hl 2 rfl) ?_
        refine lv_iload X.1 X.2.1 dX5_putOverlap_16 (lv_at hl 5 rfl) ?_
        refine cSI [.ref (G.2.2 v1), .ref (G.2.2 v2), .int v6] [.long v4] X hw (c_X5_sharedAmong l G A M v1 hv1 v2 hv2 v6 (by omega)) (va_cwS 3 X.2.2.2.2 gX5_putOverlap_X5_sharedAmong rfl rfl rfl (by decide +kernel) ⟨Nat.le_of_ble_eq_true rfl, Nat.le_of_ble_eq_true rfl⟩)  rfl rfl hl.1 (Nat.le_of_ble_eq_true rfl) dX5_putOverlap_18 ?_
        refine tni (fun r5 er5 => ?_)
        refine lv_i2l (v := r5.toInt64) X.1 X.2.1 dX5_putOverlap_21 rfl ?_
        refine lv_ldc2 (v := 720720) X.1 X.2.1 X.2.2.2.1 (X.2.2.2.2 (.constantLong RX5 34 (720720)) (by decide +kernel)) dX5_putOverlap_22 ?_
        refine lv_iload X.1 X.2.1 dX5_putOverlap_25 (lv_at hl 5 rfl) ?_
        refine lv_i2l (v := v6.toInt64) X.1 X.2.1 dX5_putOverlap_27 rfl ?_
        refine lv_ldiv X.1 X.2.1 dX5_putOverlap_28 (i2l_nz (by omega)) ?_
        refine lv_lmul X.1 X.2.1 dX5_putOverlap_29 ?_
        refine lv_ladd X.1 X.2.1 dX5_putOverlap_30 ?_
        refine tnl (fun w6 ew6 => ?_)
        refine lv_lstore (lv' := [(4, .long w6), (0, .ref (G.2.2 v0)), (1, .ref (G.2.2 v1)), (2, .ref (G.2.2 v2)), (3, .int v3), (6, .int v6)]) X.1 X.2.1 dX5_putOverlap_31 hl (by decide) rfl (fun ls hl => ?_)
        refine lv_iinc (v := (v6 + 1)) (lv' := [(6, .int (v6 + 1)), (4, .long w6), (0, .ref (G.2.2 v0)), (1, .ref (G.2.2 v1)), (2, .ref (G.2.2 v2)), (3, .int v3)]) X.1 X.2.1 dX5_putOverlap_33 hl (k := 5) rfl rfl (by decide) rfl (fun ls hl => ?_)
        refine lv_goto (tgt := 6) X.1 X.2.1 dX5_putOverlap_36 (by decide) ?_
        have q7 := inc_sp v6
        exact ih1 v0 v1 v2 v3 w6 (v6 + 1) hv0 hv1 hv2 (by omega) (by omega) (by omega) _ _ hw hS ls (lv_sub hl [2, 3, 4, 5, 1, 0] rfl)
  exact L1 ((a4.toInt - 1 + 1 : Int).toNat + 1) i1 i2 i3 a4 0 1 hi1 hi2 hi3 (Nat.lt_succ_self _) (by first | omega | decide) (by first | omega | decide) _ _ hw hS ls (lv_sub hl [2, 3, 4, 5, 1, 0] rfl)

def f_X5_putLikeness_32 (K : Int32 → Int32 → Int32 × Mem) : Nat → Mem → Nat → Nat → Nat → Int32 → Int32 → Int32 → Int32 → Int32 → Int32 × Mem
  | 0, M, _, _, _, _, _, _, _, _ => (0, M)
  | n2 + 1, M, v0, v1, v2, v5, r7, u3, u4, u7 => if v5 ≤ u7 then (K u3 u4) else (if r7 ≤ 0 then (K u3 u4) else (bnd (f_X7_documentAt M v1 u7) (fun r14 => bnd (f_X7_rankOf M v2 r14) (fun r15 => if r15 ≤ 0 then (f_X5_putLikeness_32 K n2 M v0 v1 v2 v5 r7 u3 u4 (u7 + 1)) else (if r7 ≤ r15 then (bnd (u4 + (-1)) (fun x22 => f_X5_putLikeness_32 K n2 M v0 v1 v2 v5 r7 (u3 + 1) x22 (u7 + 1))) else (bnd (u4 + 1) (fun x26 => f_X5_putLikeness_32 K n2 M v0 v1 v2 v5 r7 (u3 + 1) x26 (u7 + 1))))))))
def f_X5_putLikeness_8 : Nat → Mem → Nat → Nat → Nat → Int32 → Int32 → Int32 → Int32 × Mem
  | 0, M, _, _, _, _, _, _ => (0, M)
  | n1 + 1, M, v0, v1, v2, v3, v4, v5 => bnd (f_X7_size M v1) (fun r1 => if r1 < v5 then (bnd (f_X1_become M v0 v4.toInt64 v3.toInt64) (fun M4 => (v3, M4))) else (bnd (f_X7_documentAt M v1 v5) (fun r6 => bnd (f_X7_rankOf M v2 r6) (fun r7 => f_X5_putLikeness_32 (fun y3 y4 => f_X5_putLikeness_8 n1 M v0 v1 v2 y3 y4 (v5 + 1)) ((v5.toInt - 1 : Int).toNat + 1) M v0 v1 v2 v5 r7 v3 v4 1))))
def f_X5_putLikeness (M : Mem) (i1 : Nat) (i2 : Nat) (i3 : Nat) : Int32 × Mem := f_X5_putLikeness_8 (((M.1 i2 1).toInt - 2 + 1 : Int).toNat + 1) M i1 i2 i3 0 0 2
set_option maxRecDepth 100000 in
set_option maxHeartbeats 4000000 in
theorem c_X5_putLikeness (l : Launch) (G : En) (A : Nat → Prop) (M : Mem) (i1 : Nat) (hi1 : 2 ≤ i1 ∧ i1 < 5) (i2 : Nat) (hi2 : 34 ≤ i2 ∧ i2 < 66) (i3 : Nat) (hi3 : 34 ≤ i3 ∧ i3 < 66) : WrI true l yX5_putLikeness wsX5_putLikeness ({ frames := 3, cells := 0, slots := 0, locals := 71 }) G A M [.ref (G.2.2 i1), .ref (G.2.2 i2), .ref (G.2.2 i3)] (f_X5_putLikeness M i1 i2 i3) := by
  refine WrI.of (cc := cX5_putLikeness) (maxL := 9) (ret := (some .int)) (own := RX5) (by decide) rfl rfl (Nat.le_of_ble_eq_true rfl) ?_
  intro p e s m below meth c X hw hr hlk ls hl hS
  have hl : lv_has ls 9 [(0, .ref (G.2.2 i1)), (1, .ref (G.2.2 i2)), (2, .ref (G.2.2 i3))] := hl
  unfold f_X5_putLikeness
  refine lv_iconst (v := 0) X.1 X.2.1 dX5_putLikeness_0 (by decide) ?_
  refine lv_istore_n (lv' := [(3, .int 0), (0, .ref (G.2.2 i1)), (1, .ref (G.2.2 i2)), (2, .ref (G.2.2 i3))]) X.1 X.2.1 dX5_putLikeness_1 rfl hl (by decide) rfl (fun ls hl => ?_)
  refine lv_iconst (v := 0) X.1 X.2.1 dX5_putLikeness_2 (by decide) ?_
  refine lv_istore (lv' := [(4, .int 0), (3, .int 0), (0, .ref (G.2.2 i1)), (1, .ref (G.2.2 i2)), (2, .ref (G.2.2 i3))]) X.1 X.2.1 dX5_putLikeness_3 hl (by decide) rfl (fun ls hl => ?_)
  refine lv_iconst (v := 2) X.1 X.2.1 dX5_putLikeness_5 (by decide) ?_
  refine lv_istore (lv' := [(5, .int 2), (4, .int 0), (3, .int 0), (0, .ref (G.2.2 i1)), (1, .ref (G.2.2 i2)), (2, .ref (G.2.2 i3))]) X.1 X.2.1 dX5_putLikeness_6 hl (by decide) rfl (fun ls hl => ?_)
  have L1 : ∀ (n1 : Nat) (v0 : Nat) (v1 : Nat) (v2 : Nat) (v3 : Int32) (v4 : Int32) (v5 : Int32) (hv0 : 2 ≤ v0 ∧ v0 < 5) (hv1 : 34 ≤ v1 ∧ v1 < 66) (hv2 : 34 ≤ v2 ∧ v2 < 66) (hm1 : ((M.1 v1 1).toInt - v5.toInt + 1 : Int).toNat < n1) (hi1_0 : 2 ≤ v5.toInt), ∀ (H : Heap) (locs : List Loc), WD true G A M s H → va_S A s.heap H locs → ∀ ls : Array Slot, lv_has ls 9 [(0, .ref (G.2.2 v0)), (1, .ref (G.2.2 v1)), (2, .ref (G.2.2 v2)), (3, .int v3), (4, .int v4), (5, .int v5)] → W p l e ({ frames := 3, cells := 0, slots := 0, locals := 71 } : Room) s m ([.ref (G.2.2 i1), .ref (G.2.2 i2), .ref (G.2.2 i3)] : List Value).toArray below meth c H locs 0 0 (TQi true G A below ([.ref (G.2.2 i1), .ref (G.2.2 i2), .ref (G.2.2 i3)] : List Value).toArray s (f_X5_putLikeness_8 n1 M v0 v1 v2 v3 v4 v5)) (F0 m 8 ls []) := by
    intro n1
    induction n1 with
    | zero => intro v0 v1 v2 v3 v4 v5 hv0 hv1 hv2 hm1 hi1_0; exact absurd hm1 (by omega)
    | succ n1 ih1 =>
      intro v0 v1 v2 v3 v4 v5 hv0 hv1 hv2 hm1 hi1_0 H locs hw hS ls hl
      rw [f_X5_putLikeness_8]
      refine lv_iload X.1 X.2.1 dX5_putLikeness_8 (lv_at hl 5 rfl) ?_
      refine lv_aload_n X.1 X.2.1 dX5_putLikeness_10 rfl (lv_at hl 1 rfl) ?_
      refine cVI [] [.int v5] X hw (c_X7_size l G A M v1 hv1) (cwV 0 X.2.2.2.2 gX5_putLikeness_X7_size rfl rfl rfl (by decide +kernel) ⟨Nat.le_of_ble_eq_true rfl, Nat.le_of_ble_eq_true rfl⟩) (hw.recv (lt98 (by have h9 := hv1; omega)) (hk_Row hv1) rfl) rfl rfl hl.1 (Nat.le_of_ble_eq_true rfl) dX5_putLikeness_11 ?_
      refine tni (fun r1 er1 => ?_)
      have zr1 := (hw.2.2.2.2 v1 hv1.1 hv1.2).2
      have z2r1 : r1 = M.1 v1 1 := er1
      rw [← z2r1] at zr1
      have z3r1 := congrArg Int32.toInt z2r1
      refine bi_gt (tgt := 93) X dX5_putLikeness_14 (by decide) (fun c2 => ?_) (fun c2 => ?_)
      · skip
        have t3 : r1.toInt < v5.toInt := i_lt c2
        refine lv_aload_n X.1 X.2.1 dX5_putLikeness_93 rfl (lv_at hl 0 rfl) ?_
        refine lv_iload X.1 X.2.1 dX5_putLikeness_94 (lv_at hl 4 rfl) ?_
        refine lv_i2l (v := v4.toInt64) X.1 X.2.1 dX5_putLikeness_96 rfl ?_
        refine lv_iload_n X.1 X.2.1 dX5_putLikeness_97 rfl (lv_at hl 3 rfl) ?_
        refine lv_i2l (v := v3.toInt64) X.1 X.2.1 dX5_putLikeness_98 rfl ?_
        refine cVW [.long v4.toInt64, .long v3.toInt64] [] X hw hS (c_X1_become l G A M v0 hv0 v4.toInt64 v3.toInt64) (cwV 2 X.2.2.2.2 gX5_putLikeness_X1_become rfl rfl rfl (by decide +kernel) ⟨Nat.le_of_ble_eq_true rfl, Nat.le_of_ble_eq_true rfl⟩) (hw.recv (lt98 (by have h9 := hv0; omega)) (hk_Fr hv0) rfl) rfl rfl hl.1 (Nat.le_of_ble_eq_true rfl) dX5_putLikeness_99 (fun H locs hw hS => ?_)
        refine tpb (fun M4 eM4 => ?_)
        rw [← eM4] at hw
        refine lv_iload_n X.1 X.2.1 dX5_putLikeness_102 rfl (lv_at hl 3 rfl) ?_
        exact rQ X hr hlk hw hS dX5_putLikeness_103
      · skip
        have t5 : v5.toInt ≤ r1.toInt := i_nlt c2
        refine lv_aload_n X.1 X.2.1 dX5_putLikeness_17 rfl (lv_at hl 2 rfl) ?_
        refine lv_aload_n X.1 X.2.1 dX5_putLikeness_18 rfl (lv_at hl 1 rfl) ?_
        refine lv_iload X.1 X.2.1 dX5_putLikeness_19 (lv_at hl 5 rfl) ?_
        refine cVI [.int v5] [.ref (G.2.2 v2)] X hw (c_X7_documentAt l G A M v1 hv1 v5) (cwV 1 X.2.2.2.2 gX5_putLikeness_X7_documentAt rfl rfl rfl (by decide +kernel) ⟨Nat.le_of_ble_eq_true rfl, Nat.le_of_ble_eq_true rfl⟩) (hw.recv (lt98 (by have h9 := hv1; omega)) (hk_Row hv1) rfl) rfl rfl hl.1 (Nat.le_of_ble_eq_true rfl) dX5_putLikeness_21 ?_
        refine tni (fun r6 er6 => ?_)
        refine cVI [.int r6] [] X hw (c_X7_rankOf l G A M v2 hv2 r6) (cwV 1 X.2.2.2.2 gX5_putLikeness_X7_rankOf rfl rfl rfl (by decide +kernel) ⟨Nat.le_of_ble_eq_true rfl, Nat.le_of_ble_eq_true rfl⟩) (hw.recv (lt98 (by have h9 := hv2; omega)) (hk_Row hv2) rfl) rfl rfl hl.1 (Nat.le_of_ble_eq_true rfl) dX5_putLikeness_24 ?_
        refine tni (fun r7 er7 => ?_)
        refine lv_istore (lv' := [(6, .int r7), (0, .ref (G.2.2 v0)), (1, .ref (G.2.2 v1)), (2, .ref (G.2.2 v2)), (3, .int v3), (4, .int v4), (5, .int v5)]) X.1 X.2.1 dX5_putLikeness_27 hl (by decide) rfl (fun ls hl => ?_)
        refine lv_iconst (v := 1) X.1 X.2.1 dX5_putLikeness_29 (by decide) ?_
        refine lv_istore (lv' := [(7, .int 1), (6, .int r7), (0, .ref (G.2.2 v0)), (1, .ref (G.2.2 v1)), (2, .ref (G.2.2 v2)), (3, .int v3), (4, .int v4), (5, .int v5)]) X.1 X.2.1 dX5_putLikeness_30 hl (by decide) rfl (fun ls hl => ?_)
        have L2 : ∀ (K : Int32 → Int32 → Int32 × Mem) (hK2 : ∀ (y3 : Int32) (y4 : Int32) , ∀ (H : Heap) (locs : List Loc), WD true G A M s H → va_S A s.heap H locs → ∀ ls : Array Slot, lv_has ls 9 [(0, .ref (G.2.2 v0)), (1, .ref (G.2.2 v1)), (2, .ref (G.2.2 v2)), (3, .int y3), (4, .int y4), (5, .int v5)] → W p l e ({ frames := 3, cells := 0, slots := 0, locals := 71 } : Room) s m ([.ref (G.2.2 i1), .ref (G.2.2 i2), .ref (G.2.2 i3)] : List Value).toArray below meth c H locs 0 0 (TQi true G A below ([.ref (G.2.2 i1), .ref (G.2.2 i2), .ref (G.2.2 i3)] : List Value).toArray s (K y3 y4)) (F0 m 87 ls [])) (n2 : Nat) (u3 : Int32) (u4 : Int32) (u7 : Int32) (hm2 : (v5.toInt - u7.toInt : Int).toNat < n2) , ∀ (H : Heap) (locs : List Loc), WD true G A M s H → va_S A s.heap H locs → ∀ ls : Array Slot, lv_has ls 9 [(0, .ref (G.2.2 v0)), (1, .ref (G.2.2 v1)), (2, .ref (G.2.2 v2)), (3, .int u3), (4, .int u4), (5, .int v5), (6, .int r7), (7, .int u7)] → W p l e ({ frames := 3, cells := 0, slots := 0, locals := 71 } : Room) s m ([.ref (G.2.2 i1), .ref (G.2.2 i2), .ref (G.2.2 i3)] : List Value).toArray below meth c H locs 0 0 (TQi true G A below ([.ref (G.2.2 i1), .ref (G.2.2 i2), .ref (G.2.2 i3)] : List Value).toArray s (f_X5_putLikeness_32 K n2 M v0 v1 v2 v5 r7 u3 u4 u7)) (F0 m 32 ls []) := by
          intro K hK2 n2
          induction n2 with
          | zero => intro u3 u4 u7 hm2; exact absurd hm2 (by omega)
          | succ n2 ih2 =>
            intro u3 u4 u7 hm2 H locs hw hS ls hl
            rw [f_X5_putLikeness_32]
            refine lv_iload X.1 X.2.1 dX5_putLikeness_32 (lv_at hl 7 rfl) ?_
            refine lv_iload X.1 X.2.1 dX5_putLikeness_34 (lv_at hl 5 rfl) ?_
            refine bi_ge (tgt := 87) X dX5_putLikeness_36 (by decide) (fun c8 => ?_) (fun c8 => ?_)
            · skip
              have t9 : v5.toInt ≤ u7.toInt := i_le c8
              exact hK2 u3 u4 _ _ hw hS ls (lv_sub hl [0, 1, 2, 3, 4, 5] rfl)
            · skip
              have t10 : u7.toInt < v5.toInt := i_nle c8
              refine lv_iload X.1 X.2.1 dX5_putLikeness_39 (lv_at hl 6 rfl) ?_
              refine bz_le (tgt := 87) X dX5_putLikeness_41 (by decide) (fun c11 => ?_) (fun c11 => ?_)
              · skip
                have t12 : r7.toInt ≤ 0 := i_le c11
                exact hK2 u3 u4 _ _ hw hS ls (lv_sub hl [0, 1, 2, 3, 4, 5] rfl)
              · skip
                have t13 : 0 < r7.toInt := i_nle c11
                refine lv_aload_n X.1 X.2.1 dX5_putLikeness_44 rfl (lv_at hl 2 rfl) ?_
                refine lv_aload_n X.1 X.2.1 dX5_putLikeness_45 rfl (lv_at hl 1 rfl) ?_
                refine lv_iload X.1 X.2.1 dX5_putLikeness_46 (lv_at hl 7 rfl) ?_
                refine cVI [.int u7] [.ref (G.2.2 v2)] X hw (c_X7_documentAt l G A M v1 hv1 u7) (cwV 1 X.2.2.2.2 gX5_putLikeness_X7_documentAt rfl rfl rfl (by decide +kernel) ⟨Nat.le_of_ble_eq_true rfl, Nat.le_of_ble_eq_true rfl⟩) (hw.recv (lt98 (by have h9 := hv1; omega)) (hk_Row hv1) rfl) rfl rfl hl.1 (Nat.le_of_ble_eq_true rfl) dX5_putLikeness_48 ?_
                refine tni (fun r14 er14 => ?_)
                refine cVI [.int r14] [] X hw (c_X7_rankOf l G A M v2 hv2 r14) (cwV 1 X.2.2.2.2 gX5_putLikeness_X7_rankOf rfl rfl rfl (by decide +kernel) ⟨Nat.le_of_ble_eq_true rfl, Nat.le_of_ble_eq_true rfl⟩) (hw.recv (lt98 (by have h9 := hv2; omega)) (hk_Row hv2) rfl) rfl rfl hl.1 (Nat.le_of_ble_eq_true rfl) dX5_putLikeness_51 ?_
                refine tni (fun r15 er15 => ?_)
                refine lv_istore (lv' := [(8, .int r15), (0, .ref (G.2.2 v0)), (1, .ref (G.2.2 v1)), (2, .ref (G.2.2 v2)), (3, .int u3), (4, .int u4), (5, .int v5), (6, .int r7), (7, .int u7)]) X.1 X.2.1 dX5_putLikeness_54 hl (by decide) rfl (fun ls hl => ?_)
                refine lv_iload X.1 X.2.1 dX5_putLikeness_56 (lv_at hl 0 rfl) ?_
                refine bz_le (tgt := 81) X dX5_putLikeness_58 (by decide) (fun c16 => ?_) (fun c16 => ?_)
                · skip
                  have t17 : r15.toInt ≤ 0 := i_le c16
                  refine lv_iinc (v := (u7 + 1)) (lv' := [(7, .int (u7 + 1)), (8, .int r15), (0, .ref (G.2.2 v0)), (1, .ref (G.2.2 v1)), (2, .ref (G.2.2 v2)), (3, .int u3), (4, .int u4), (5, .int v5), (6, .int r7)]) X.1 X.2.1 dX5_putLikeness_81 hl (k := 8) rfl rfl (by decide) rfl (fun ls hl => ?_)
                  refine lv_goto (tgt := 32) X.1 X.2.1 dX5_putLikeness_84 (by decide) ?_
                  have q18 := inc_sp u7
                  exact ih2 u3 u4 (u7 + 1) (by omega) _ _ hw hS ls (lv_sub hl [2, 3, 4, 5, 6, 7, 8, 0] rfl)
                · skip
                  have t19 : 0 < r15.toInt := i_nle c16
                  refine lv_iinc (v := (u3 + 1)) (lv' := [(3, .int (u3 + 1)), (8, .int r15), (0, .ref (G.2.2 v0)), (1, .ref (G.2.2 v1)), (2, .ref (G.2.2 v2)), (4, .int u4), (5, .int v5), (6, .int r7), (7, .int u7)]) X.1 X.2.1 dX5_putLikeness_61 hl (k := 4) rfl rfl (by decide) rfl (fun ls hl => ?_)
                  refine lv_iload X.1 X.2.1 dX5_putLikeness_64 (lv_at hl 5 rfl) ?_
                  refine lv_iload X.1 X.2.1 dX5_putLikeness_66 (lv_at hl 1 rfl) ?_
                  refine lv_iload X.1 X.2.1 dX5_putLikeness_68 (lv_at hl 7 rfl) ?_
                  refine bi_ge (tgt := 77) X dX5_putLikeness_70 (by decide) (fun c20 => ?_) (fun c20 => ?_)
                  · skip
                    have t21 : r7.toInt ≤ r15.toInt := i_le c20
                    refine lv_iconst (v := (-1)) X.1 X.2.1 dX5_putLikeness_77 (by decide) ?_
                    refine lv_iadd X.1 X.2.1 dX5_putLikeness_78 ?_
                    refine tni (fun x22 ex22 => ?_)
                    refine lv_istore (lv' := [(4, .int x22), (3, .int (u3 + 1)), (8, .int r15), (0, .ref (G.2.2 v0)), (1, .ref (G.2.2 v1)), (2, .ref (G.2.2 v2)), (5, .int v5), (6, .int r7), (7, .int u7)]) X.1 X.2.1 dX5_putLikeness_79 hl (by decide) rfl (fun ls hl => ?_)
                    refine lv_iinc (v := (u7 + 1)) (lv' := [(7, .int (u7 + 1)), (4, .int x22), (3, .int (u3 + 1)), (8, .int r15), (0, .ref (G.2.2 v0)), (1, .ref (G.2.2 v1)), (2, .ref (G.2.2 v2)), (5, .int v5), (6, .int r7)]) X.1 X.2.1 dX5_putLikeness_81 hl (k := 8) rfl rfl (by decide) rfl (fun ls hl => ?_)
                    refine lv_goto (tgt := 32) X.1 X.2.1 dX5_putLikeness_84 (by decide) ?_
                    have q23 := inc_sp u3
                    have q24 := inc_sp u7
                    exact ih2 (u3 + 1) x22 (u7 + 1) (by omega) _ _ hw hS ls (lv_sub hl [4, 5, 6, 2, 1, 7, 8, 0] rfl)
                  · skip
                    have t25 : r15.toInt < r7.toInt := i_nle c20
                    refine lv_iconst (v := 1) X.1 X.2.1 dX5_putLikeness_73 (by decide) ?_
                    refine lv_goto (tgt := 78) X.1 X.2.1 dX5_putLikeness_74 (by decide) ?_
                    refine lv_iadd X.1 X.2.1 dX5_putLikeness_78 ?_
                    refine tni (fun x26 ex26 => ?_)
                    have q27 := inc_sp u4
                    rw [← ex26] at q27
                    refine lv_istore (lv' := [(4, .int x26), (3, .int (u3 + 1)), (8, .int r15), (0, .ref (G.2.2 v0)), (1, .ref (G.2.2 v1)), (2, .ref (G.2.2 v2)), (5, .int v5), (6, .int r7), (7, .int u7)]) X.1 X.2.1 dX5_putLikeness_79 hl (by decide) rfl (fun ls hl => ?_)
                    refine lv_iinc (v := (u7 + 1)) (lv' := [(7, .int (u7 + 1)), (4, .int x26), (3, .int (u3 + 1)), (8, .int r15), (0, .ref (G.2.2 v0)), (1, .ref (G.2.2 v1)), (2, .ref (G.2.2 v2)), (5, .int v5), (6, .int r7)]) X.1 X.2.1 dX5_putLikeness_81 hl (k := 8) rfl rfl (by decide) rfl (fun ls hl => ?_)
                    refine lv_goto (tgt := 32) X.1 X.2.1 dX5_putLikeness_84 (by decide) ?_
                    have q28 := inc_sp u3
                    have q29 := inc_sp u7
                    exact ih2 (u3 + 1) x26 (u7 + 1) (by omega) _ _ hw hS ls (lv_sub hl [4, 5, 6, 2, 1, 7, 8, 0] rfl)
        refine L2 _ (fun y3 y4 H locs hw hS ls hl => ?_) ((v5.toInt - 1 : Int).toNat + 1) v3 v4 1 (Nat.lt_succ_self _) _ _ hw hS ls (lv_sub hl [2, 3, 4, 5, 6, 7, 1, 0] rfl)
        refine lv_iinc (v := (v5 + 1)) (lv' := [(5, .int (v5 + 1)), (0, .ref (G.2.2 v0)), (1, .ref (G.2.2 v1)), (2, .ref (G.2.2 v2)), (3, .int y3), (4, .int y4)]) X.1 X.2.1 dX5_putLikeness_87 hl (k := 5) rfl rfl (by decide) rfl (fun ls hl => ?_)
        refine lv_goto (tgt := 8) X.1 X.2.1 dX5_putLikeness_90 (by decide) ?_
        have q30 := inc_sp v5
        exact ih1 v0 v1 v2 y3 y4 (v5 + 1) hv0 hv1 hv2 (by omega) (by omega) _ _ hw hS ls (lv_sub hl [1, 2, 3, 4, 5, 0] rfl)
  exact L1 (((M.1 i2 1).toInt - 2 + 1 : Int).toNat + 1) i1 i2 i3 0 0 2 hi1 hi2 hi3 (Nat.lt_succ_self _) (by first | omega | decide) _ _ hw hS ls (lv_sub hl [3, 4, 5, 2, 1, 0] rfl)
