/-! 20.means -/
def f_X8_measure (M : Mem) (a1 : Int32) (a2 : Int32) (a3 : Int32) (a4 : Int32) : Int32 × Mem := oc (f_X8_questionOf a2) (oc (f_X8_rowOf M a1 a2) ((-1), M) (fun o2 => ((-1), M))) (fun o1 => oc (f_X8_rowOf M a1 a2) ((-1), M) (fun o3 => bnd (f_X8_isMeasure a3) (fun r4 => if r4 = 0 then ((-2), M) else (bnd (f_X8_isDepth a4) (fun r8 => if r8 = 0 then ((-2), M) else (bnd (f_X3_put M 2 o1 o3 a3 a4) (fun M11 => (1, M11))))))))
set_option maxRecDepth 100000 in
set_option maxHeartbeats 4000000 in
theorem c_X8_measure (l : Launch) (G : En) (A : Nat → Prop) (M : Mem) (a1 : Int32) (a2 : Int32) (a3 : Int32) (a4 : Int32) : WrI true l yX8_measure wsX8_measure ({ frames := 5, cells := 0, slots := 0, locals := 126 }) G A M [.ref (G.2.2 0), .int a1, .int a2, .int a3, .int a4] (f_X8_measure M a1 a2 a3 a4) := by
  refine WrI.of (cc := cX8_measure) (maxL := 7) (ret := (some .int)) (own := RX8) (by decide) rfl rfl (Nat.le_of_ble_eq_true rfl) ?_
  intro p e s m below meth c X hw hr hlk ls hl hS
  have hl : lv_has ls 7 [(0, .ref (G.2.2 0)), (1, .int a1), (2, .int a2), (3, .int a3), (4, .int a4)] := hl
  unfold f_X8_measure
  refine lv_aload_n X.1 X.2.1 dX8_measure_0 rfl (lv_at hl 0 rfl) ?_
  refine lv_iload_n X.1 X.2.1 dX8_measure_1 rfl (lv_at hl 2 rfl) ?_
  refine cVO [.int a2] [] X hw (c_X8_questionOf l G A M a2) (cwV 1 X.2.2.2.2 gX8_measure_X8_questionOf rfl rfl rfl (by decide +kernel) ⟨Nat.le_of_ble_eq_true rfl, Nat.le_of_ble_eq_true rfl⟩) (hw.recv (by decide) hk_RB rfl) rfl rfl hl.1 (Nat.le_of_ble_eq_true rfl) dX8_measure_2 ?_
  refine tno (fun eo1 => ?_) (fun o1 eo1 => ?_)
  · skip
    refine lv_astoreN (lv' := [(5, .null), (0, .ref (G.2.2 0)), (1, .int a1), (2, .int a2), (3, .int a3), (4, .int a4)]) X.1 X.2.1 dX8_measure_5 hl (by decide) rfl (fun ls hl => ?_)
    refine lv_aload_n X.1 X.2.1 dX8_measure_7 rfl (lv_at hl 1 rfl) ?_
    refine lv_iload_n X.1 X.2.1 dX8_measure_8 rfl (lv_at hl 2 rfl) ?_
    refine lv_iload_n X.1 X.2.1 dX8_measure_9 rfl (lv_at hl 3 rfl) ?_
    refine cVO [.int a1, .int a2] [] X hw (c_X8_rowOf l G A M a1 a2) (cwV 2 X.2.2.2.2 gX8_measure_X8_rowOf rfl rfl rfl (by decide +kernel) ⟨Nat.le_of_ble_eq_true rfl, Nat.le_of_ble_eq_true rfl⟩) (hw.recv (by decide) hk_RB rfl) rfl rfl hl.1 (Nat.le_of_ble_eq_true rfl) dX8_measure_10 ?_
    refine tno (fun eo2 => ?_) (fun o2 eo2 => ?_)
    · skip
      refine lv_astoreN (lv' := [(6, .null), (5, .null), (0, .ref (G.2.2 0)), (1, .int a1), (2, .int a2), (3, .int a3), (4, .int a4)]) X.1 X.2.1 dX8_measure_13 hl (by decide) rfl (fun ls hl => ?_)
      refine lv_aloadN X.1 X.2.1 dX8_measure_15 (lv_at hl 1 rfl) ?_
      refine lv_ifnullN (tgt := 25) X.1 X.2.1 dX8_measure_17 (by decide) ?_
      refine lv_iconst (v := (-1)) X.1 X.2.1 dX8_measure_25 (by decide) ?_
      exact rQ X hr hlk hw hS dX8_measure_26
    · skip
      have ho2 : 34 ≤ o2 ∧ o2 < 66 := b_X8_rowOf eo2
      refine lv_astore (lv' := [(6, .ref (G.2.2 o2)), (5, .null), (0, .ref (G.2.2 0)), (1, .int a1), (2, .int a2), (3, .int a3), (4, .int a4)]) X.1 X.2.1 dX8_measure_13 hl (by decide) rfl (fun ls hl => ?_)
      refine lv_aloadN X.1 X.2.1 dX8_measure_15 (lv_at hl 1 rfl) ?_
      refine lv_ifnullN (tgt := 25) X.1 X.2.1 dX8_measure_17 (by decide) ?_
      refine lv_iconst (v := (-1)) X.1 X.2.1 dX8_measure_25 (by decide) ?_
      exact rQ X hr hlk hw hS dX8_measure_26
  · skip
    have ho1 : 10 ≤ o1 ∧ o1 < 18 := b_X8_questionOf eo1
    refine lv_astore (lv' := [(5, .ref (G.2.2 o1)), (0, .ref (G.2.2 0)), (1, .int a1), (2, .int a2), (3, .int a3), (4, .int a4)]) X.1 X.2.1 dX8_measure_5 hl (by decide) rfl (fun ls hl => ?_)
    refine lv_aload_n X.1 X.2.1 dX8_measure_7 rfl (lv_at hl 1 rfl) ?_
    refine lv_iload_n X.1 X.2.1 dX8_measure_8 rfl (lv_at hl 2 rfl) ?_
    refine lv_iload_n X.1 X.2.1 dX8_measure_9 rfl (lv_at hl 3 rfl) ?_
    refine cVO [.int a1, .int a2] [] X hw (c_X8_rowOf l G A M a1 a2) (cwV 2 X.2.2.2.2 gX8_measure_X8_rowOf rfl rfl rfl (by decide +kernel) ⟨Nat.le_of_ble_eq_true rfl, Nat.le_of_ble_eq_true rfl⟩) (hw.recv (by decide) hk_RB rfl) rfl rfl hl.1 (Nat.le_of_ble_eq_true rfl) dX8_measure_10 ?_
    refine tno (fun eo3 => ?_) (fun o3 eo3 => ?_)
    · skip
      refine lv_astoreN (lv' := [(6, .null), (5, .ref (G.2.2 o1)), (0, .ref (G.2.2 0)), (1, .int a1), (2, .int a2), (3, .int a3), (4, .int a4)]) X.1 X.2.1 dX8_measure_13 hl (by decide) rfl (fun ls hl => ?_)
      refine lv_aload X.1 X.2.1 dX8_measure_15 (lv_at hl 1 rfl) ?_
      refine lv_ifnull X.1 X.2.1 dX8_measure_17 ?_
      refine lv_aloadN X.1 X.2.1 dX8_measure_20 (lv_at hl 0 rfl) ?_
      refine lv_ifnonnullN X.1 X.2.1 dX8_measure_22 ?_
      refine lv_iconst (v := (-1)) X.1 X.2.1 dX8_measure_25 (by decide) ?_
      exact rQ X hr hlk hw hS dX8_measure_26
    · skip
      have ho3 : 34 ≤ o3 ∧ o3 < 66 := b_X8_rowOf eo3
      refine lv_astore (lv' := [(6, .ref (G.2.2 o3)), (5, .ref (G.2.2 o1)), (0, .ref (G.2.2 0)), (1, .int a1), (2, .int a2), (3, .int a3), (4, .int a4)]) X.1 X.2.1 dX8_measure_13 hl (by decide) rfl (fun ls hl => ?_)
      refine lv_aload X.1 X.2.1 dX8_measure_15 (lv_at hl 1 rfl) ?_
      refine lv_ifnull X.1 X.2.1 dX8_measure_17 ?_
      refine lv_aload X.1 X.2.1 dX8_measure_20 (lv_at hl 0 rfl) ?_
      refine lv_ifnonnull (tgt := 27) X.1 X.2.1 dX8_measure_22 (by decide) ?_
      refine lv_iload_n X.1 X.2.1 dX8_measure_27 rfl (lv_at hl 5 rfl) ?_
      refine cSI [.int a3] [] X hw (c_X8_isMeasure l G A M a3) (va_cwS 1 X.2.2.2.2 gX8_measure_X8_isMeasure rfl rfl rfl (by decide +kernel) ⟨Nat.le_of_ble_eq_true rfl, Nat.le_of_ble_eq_true rfl⟩)  rfl rfl hl.1 (Nat.le_of_ble_eq_true rfl) dX8_measure_28 ?_
      refine tni (fun r4 er4 => ?_)
      refine bz_eq (tgt := 42) X dX8_measure_31 (by decide) (fun c5 => ?_) (fun c5 => ?_)
      · skip
        have t6 : r4.toInt = 0 := i_eq c5
        refine lv_bipush (v := (-2)) X.1 X.2.1 dX8_measure_42 (by decide) ?_
        exact rQ X hr hlk hw hS dX8_measure_44
      · skip
        have t7 : ¬ r4.toInt = 0 := i_ne c5
        refine lv_iload X.1 X.2.1 dX8_measure_34 (lv_at hl 6 rfl) ?_
        refine cSI [.int a4] [] X hw (c_X8_isDepth l G A M a4) (va_cwS 1 X.2.2.2.2 gX8_measure_X8_isDepth rfl rfl rfl (by decide +kernel) ⟨Nat.le_of_ble_eq_true rfl, Nat.le_of_ble_eq_true rfl⟩)  rfl rfl hl.1 (Nat.le_of_ble_eq_true rfl) dX8_measure_36 ?_
        refine tni (fun r8 er8 => ?_)
        have qr8 := dep_or er8
        refine bz_ne (tgt := 45) X dX8_measure_39 (by decide) (fun c9 => ?_) (fun c9 => ?_)
        · skip
          have t10 : ¬ r8.toInt = 0 := i_ne c9
          refine lv_aload_n X.1 X.2.1 dX8_measure_45 rfl (lv_at hl 2 rfl) ?_
          refine gF X hw (by decide) hk_RB rfl (by decide +kernel) 1 (by decide) (ref := "RankBench") rfl (by decide +kernel) rfl dX8_measure_46 ?_
          refine lv_aload X.1 X.2.1 dX8_measure_49 (lv_at hl 1 rfl) ?_
          refine lv_aload X.1 X.2.1 dX8_measure_51 (lv_at hl 0 rfl) ?_
          refine lv_iload_n X.1 X.2.1 dX8_measure_53 rfl (lv_at hl 5 rfl) ?_
          refine lv_iload X.1 X.2.1 dX8_measure_54 (lv_at hl 6 rfl) ?_
          refine cSW [.ref (G.2.2 2), .ref (G.2.2 o1), .ref (G.2.2 o3), .int a3, .int a4] [] X hw hS (c_X3_put l G A M 2 (by decide : 2 ≤ 2 ∧ 2 < 5) o1 ho1 o3 ho3 a3 a4 (by omega)) (va_cwS 5 X.2.2.2.2 gX8_measure_X3_put rfl rfl rfl (by decide +kernel) ⟨Nat.le_of_ble_eq_true rfl, Nat.le_of_ble_eq_true rfl⟩)  rfl rfl hl.1 (Nat.le_of_ble_eq_true rfl) dX8_measure_56 (fun H locs hw hS => ?_)
          refine tpb (fun M11 eM11 => ?_)
          rw [← eM11] at hw
          refine lv_iconst (v := 1) X.1 X.2.1 dX8_measure_59 (by decide) ?_
          exact rQ X hr hlk hw hS dX8_measure_60
        · skip
          have t12 : r8.toInt = 0 := i_eq c9
          refine lv_bipush (v := (-2)) X.1 X.2.1 dX8_measure_42 (by decide) ?_
          exact rQ X hr hlk hw hS dX8_measure_44

def f_X8_addUp_15 : Nat → Mem → Int32 → Int32 → Int32 → Int32 → Int32 → Int32 × Mem
  | 0, M, _, _, _, _, _ => (0, M)
  | n1 + 1, M, v1, v2, v3, v4, v5 => if (8 : Int32) ≤ v5 then (v4, M) else (oc (f_X8_questionOf v5) (oc (f_X8_countingRow M v1 v5) (f_X8_addUp_15 n1 M v1 v2 v3 v4 (v5 + 1)) (fun o6 => f_X8_addUp_15 n1 M v1 v2 v3 v4 (v5 + 1))) (fun o5 => oc (f_X8_countingRow M v1 v5) (f_X8_addUp_15 n1 M v1 v2 v3 v4 (v5 + 1)) (fun o9 => bnd (f_X3_put M 3 o5 o9 v2 v3) (fun M11 => bnd (f_X1_add M11 4 3 1) (fun M12 => f_X8_addUp_15 n1 M12 v1 v2 v3 (v4 + 1) (v5 + 1))))))
def f_X8_addUp (M : Mem) (a1 : Int32) (a2 : Int32) (a3 : Int32) : Int32 × Mem := bnd (f_X1_become M 4 0 1) (fun M1 => f_X8_addUp_15 9 M1 a1 a2 a3 0 0)
set_option maxRecDepth 100000 in
set_option maxHeartbeats 4000000 in
theorem c_X8_addUp (l : Launch) (G : En) (A : Nat → Prop) (M : Mem) (a1 : Int32) (a2 : Int32) (a3 : Int32) (hk : a3.toInt ≤ 16) : WrI true l yX8_addUp wsX8_addUp ({ frames := 5, cells := 0, slots := 0, locals := 126 }) G A M [.ref (G.2.2 0), .int a1, .int a2, .int a3] (f_X8_addUp M a1 a2 a3) := by
  refine WrI.of (cc := cX8_addUp) (maxL := 8) (ret := (some .int)) (own := RX8) (by decide) rfl rfl (Nat.le_of_ble_eq_true rfl) ?_
  intro p e s m below meth c X hw hr hlk ls hl hS
  have hl : lv_has ls 8 [(0, .ref (G.2.2 0)), (1, .int a1), (2, .int a2), (3, .int a3)] := hl
  unfold f_X8_addUp
  refine lv_iconst (v := 0) X.1 X.2.1 dX8_addUp_0 (by decide) ?_
  refine lv_istore (lv' := [(4, .int 0), (0, .ref (G.2.2 0)), (1, .int a1), (2, .int a2), (3, .int a3)]) X.1 X.2.1 dX8_addUp_1 hl (by decide) rfl (fun ls hl => ?_)
  refine lv_aload_n X.1 X.2.1 dX8_addUp_3 rfl (lv_at hl 1 rfl) ?_
  refine gF X hw (by decide) hk_RB rfl (by decide +kernel) 3 (by decide) (ref := "RankBench") rfl (by decide +kernel) rfl dX8_addUp_4 ?_
  refine lv_lconst (v := 0) X.1 X.2.1 dX8_addUp_7 (by decide) ?_
  refine lv_lconst (v := 1) X.1 X.2.1 dX8_addUp_8 (by decide) ?_
  refine cVW [.long 0, .long 1] [] X hw hS (c_X1_become l G A M 4 (by decide : 2 ≤ 4 ∧ 4 < 5) 0 1) (cwV 2 X.2.2.2.2 gX8_addUp_X1_become rfl rfl rfl (by decide +kernel) ⟨Nat.le_of_ble_eq_true rfl, Nat.le_of_ble_eq_true rfl⟩) (hw.recv (lt98 (by have h9 := (by decide : 2 ≤ 4 ∧ 4 < 5); omega)) (hk_Fr (by decide : 2 ≤ 4 ∧ 4 < 5)) rfl) rfl rfl hl.1 (Nat.le_of_ble_eq_true rfl) dX8_addUp_9 (fun H locs hw hS => ?_)
  refine tpb (fun M1 eM1 => ?_)
  rw [← eM1] at hw
  refine lv_iconst (v := 0) X.1 X.2.1 dX8_addUp_12 (by decide) ?_
  refine lv_istore (lv' := [(5, .int 0), (4, .int 0), (0, .ref (G.2.2 0)), (1, .int a1), (2, .int a2), (3, .int a3)]) X.1 X.2.1 dX8_addUp_13 hl (by decide) rfl (fun ls hl => ?_)
  have L1 : ∀ (n1 : Nat) (M : Mem) (v1 : Int32) (v2 : Int32) (v3 : Int32) (v4 : Int32) (v5 : Int32)  (hm1 : (8 - v5.toInt : Int).toNat < n1) (hi1_0 : 0 ≤ v5.toInt) (hi1_1 : v3.toInt ≤ 16), ∀ (H : Heap) (locs : List Loc), WD true G A M s H → va_S A s.heap H locs → ∀ ls : Array Slot, lv_has ls 8 [(0, .ref (G.2.2 0)), (1, .int v1), (2, .int v2), (3, .int v3), (4, .int v4), (5, .int v5)] → W p l e ({ frames := 5, cells := 0, slots := 0, locals := 126 } : Room) s m ([.ref (G.2.2 0), .int a1, .int a2, .int a3] : List Value).toArray below meth c H locs 0 0 (TQi true G A below ([.ref (G.2.2 0), .int a1, .int a2, .int a3] : List Value).toArray s (f_X8_addUp_15 n1 M v1 v2 v3 v4 v5)) (F0 m 15 ls []) := by
    intro n1
    induction n1 with
    | zero => intro M v1 v2 v3 v4 v5 hm1 hi1_0 hi1_1; exact absurd hm1 (by omega)
    | succ n1 ih1 =>
      intro M v1 v2 v3 v4 v5 hm1 hi1_0 hi1_1 H locs hw hS ls hl
      rw [f_X8_addUp_15]
      refine lv_iload X.1 X.2.1 dX8_addUp_15 (lv_at hl 5 rfl) ?_
      refine lv_bipush (v := 8) X.1 X.2.1 dX8_addUp_17 (by decide) ?_
      refine bi_ge (tgt := 83) X dX8_addUp_19 (by decide) (fun c2 => ?_) (fun c2 => ?_)
      · skip
        have t3 : 8 ≤ v5.toInt := i_le c2
        refine lv_iload X.1 X.2.1 dX8_addUp_83 (lv_at hl 4 rfl) ?_
        exact rQ X hr hlk hw hS dX8_addUp_85
      · skip
        have t4 : v5.toInt < 8 := i_nle c2
        refine lv_aload_n X.1 X.2.1 dX8_addUp_22 rfl (lv_at hl 0 rfl) ?_
        refine lv_iload X.1 X.2.1 dX8_addUp_23 (lv_at hl 5 rfl) ?_
        refine cVO [.int v5] [] X hw (c_X8_questionOf l G A M v5) (cwV 1 X.2.2.2.2 gX8_addUp_X8_questionOf rfl rfl rfl (by decide +kernel) ⟨Nat.le_of_ble_eq_true rfl, Nat.le_of_ble_eq_true rfl⟩) (hw.recv (by decide) hk_RB rfl) rfl rfl hl.1 (Nat.le_of_ble_eq_true rfl) dX8_addUp_25 ?_
        refine tno (fun eo5 => ?_) (fun o5 eo5 => ?_)
        · skip
          refine lv_astoreN (lv' := [(6, .null), (0, .ref (G.2.2 0)), (1, .int v1), (2, .int v2), (3, .int v3), (4, .int v4), (5, .int v5)]) X.1 X.2.1 dX8_addUp_28 hl (by decide) rfl (fun ls hl => ?_)
          refine lv_aload_n X.1 X.2.1 dX8_addUp_30 rfl (lv_at hl 1 rfl) ?_
          refine lv_iload_n X.1 X.2.1 dX8_addUp_31 rfl (lv_at hl 2 rfl) ?_
          refine lv_iload X.1 X.2.1 dX8_addUp_32 (lv_at hl 6 rfl) ?_
          refine cVO [.int v1, .int v5] [] X hw (c_X8_countingRow l G A M v1 v5) (cwV 2 X.2.2.2.2 gX8_addUp_X8_countingRow rfl rfl rfl (by decide +kernel) ⟨Nat.le_of_ble_eq_true rfl, Nat.le_of_ble_eq_true rfl⟩) (hw.recv (by decide) hk_RB rfl) rfl rfl hl.1 (Nat.le_of_ble_eq_true rfl) dX8_addUp_34 ?_
          refine tno (fun eo6 => ?_) (fun o6 eo6 => ?_)
          · skip
            refine lv_astoreN (lv' := [(7, .null), (6, .null), (0, .ref (G.2.2 0)), (1, .int v1), (2, .int v2), (3, .int v3), (4, .int v4), (5, .int v5)]) X.1 X.2.1 dX8_addUp_37 hl (by decide) rfl (fun ls hl => ?_)
            refine lv_aloadN X.1 X.2.1 dX8_addUp_39 (lv_at hl 1 rfl) ?_
            refine lv_ifnullN (tgt := 77) X.1 X.2.1 dX8_addUp_41 (by decide) ?_
            refine lv_iinc (v := (v5 + 1)) (lv' := [(5, .int (v5 + 1)), (7, .null), (6, .null), (0, .ref (G.2.2 0)), (1, .int v1), (2, .int v2), (3, .int v3), (4, .int v4)]) X.1 X.2.1 dX8_addUp_77 hl (k := 7) rfl rfl (by decide) rfl (fun ls hl => ?_)
            refine lv_goto (tgt := 15) X.1 X.2.1 dX8_addUp_80 (by decide) ?_
            have q7 := inc_sp v5
            exact ih1 M v1 v2 v3 v4 (v5 + 1) (by omega) (by omega) (by omega) _ _ hw hS ls (lv_sub hl [3, 4, 5, 6, 7, 0] rfl)
          · skip
            have ho6 : 34 ≤ o6 ∧ o6 < 66 := b_X8_countingRow eo6
            refine lv_astore (lv' := [(7, .ref (G.2.2 o6)), (6, .null), (0, .ref (G.2.2 0)), (1, .int v1), (2, .int v2), (3, .int v3), (4, .int v4), (5, .int v5)]) X.1 X.2.1 dX8_addUp_37 hl (by decide) rfl (fun ls hl => ?_)
            refine lv_aloadN X.1 X.2.1 dX8_addUp_39 (lv_at hl 1 rfl) ?_
            refine lv_ifnullN (tgt := 77) X.1 X.2.1 dX8_addUp_41 (by decide) ?_
            refine lv_iinc (v := (v5 + 1)) (lv' := [(5, .int (v5 + 1)), (7, .ref (G.2.2 o6)), (6, .null), (0, .ref (G.2.2 0)), (1, .int v1), (2, .int v2), (3, .int v3), (4, .int v4)]) X.1 X.2.1 dX8_addUp_77 hl (k := 7) rfl rfl (by decide) rfl (fun ls hl => ?_)
            refine lv_goto (tgt := 15) X.1 X.2.1 dX8_addUp_80 (by decide) ?_
            have q8 := inc_sp v5
            exact ih1 M v1 v2 v3 v4 (v5 + 1) (by omega) (by omega) (by omega) _ _ hw hS ls (lv_sub hl [3, 4, 5, 6, 7, 0] rfl)
        · skip
          have ho5 : 10 ≤ o5 ∧ o5 < 18 := b_X8_questionOf eo5
          refine lv_astore (lv' := [(6, .ref (G.2.2 o5)), (0, .ref (G.2.2 0)), (1, .int v1), (2, .int v2), (3, .int v3), (4, .int v4), (5, .int v5)]) X.1 X.2.1 dX8_addUp_28 hl (by decide) rfl (fun ls hl => ?_)
          refine lv_aload_n X.1 X.2.1 dX8_addUp_30 rfl (lv_at hl 1 rfl) ?_
          refine lv_iload_n X.1 X.2.1 dX8_addUp_31 rfl (lv_at hl 2 rfl) ?_
          refine lv_iload X.1 X.2.1 dX8_addUp_32 (lv_at hl 6 rfl) ?_
          refine cVO [.int v1, .int v5] [] X hw (c_X8_countingRow l G A M v1 v5) (cwV 2 X.2.2.2.2 gX8_addUp_X8_countingRow rfl rfl rfl (by decide +kernel) ⟨Nat.le_of_ble_eq_true rfl, Nat.le_of_ble_eq_true rfl⟩) (hw.recv (by decide) hk_RB rfl) rfl rfl hl.1 (Nat.le_of_ble_eq_true rfl) dX8_addUp_34 ?_
          refine tno (fun eo9 => ?_) (fun o9 eo9 => ?_)
          · skip
            refine lv_astoreN (lv' := [(7, .null), (6, .ref (G.2.2 o5)), (0, .ref (G.2.2 0)), (1, .int v1), (2, .int v2), (3, .int v3), (4, .int v4), (5, .int v5)]) X.1 X.2.1 dX8_addUp_37 hl (by decide) rfl (fun ls hl => ?_)
            refine lv_aload X.1 X.2.1 dX8_addUp_39 (lv_at hl 1 rfl) ?_
            refine lv_ifnull X.1 X.2.1 dX8_addUp_41 ?_
            refine lv_aloadN X.1 X.2.1 dX8_addUp_44 (lv_at hl 0 rfl) ?_
            refine lv_ifnullN (tgt := 77) X.1 X.2.1 dX8_addUp_46 (by decide) ?_
            refine lv_iinc (v := (v5 + 1)) (lv' := [(5, .int (v5 + 1)), (7, .null), (6, .ref (G.2.2 o5)), (0, .ref (G.2.2 0)), (1, .int v1), (2, .int v2), (3, .int v3), (4, .int v4)]) X.1 X.2.1 dX8_addUp_77 hl (k := 7) rfl rfl (by decide) rfl (fun ls hl => ?_)
            refine lv_goto (tgt := 15) X.1 X.2.1 dX8_addUp_80 (by decide) ?_
            have q10 := inc_sp v5
            exact ih1 M v1 v2 v3 v4 (v5 + 1) (by omega) (by omega) (by omega) _ _ hw hS ls (lv_sub hl [3, 4, 5, 6, 7, 0] rfl)
          · skip
            have ho9 : 34 ≤ o9 ∧ o9 < 66 := b_X8_countingRow eo9
            refine lv_astore (lv' := [(7, .ref (G.2.2 o9)), (6, .ref (G.2.2 o5)), (0, .ref (G.2.2 0)), (1, .int v1), (2, .int v2), (3, .int v3), (4, .int v4), (5, .int v5)]) X.1 X.2.1 dX8_addUp_37 hl (by decide) rfl (fun ls hl => ?_)
            refine lv_aload X.1 X.2.1 dX8_addUp_39 (lv_at hl 1 rfl) ?_
            refine lv_ifnull X.1 X.2.1 dX8_addUp_41 ?_
            refine lv_aload X.1 X.2.1 dX8_addUp_44 (lv_at hl 0 rfl) ?_
            refine lv_ifnull X.1 X.2.1 dX8_addUp_46 ?_
            refine lv_aload_n X.1 X.2.1 dX8_addUp_49 rfl (lv_at hl 2 rfl) ?_
            refine gF X hw (by decide) hk_RB rfl (by decide +kernel) 2 (by decide) (ref := "RankBench") rfl (by decide +kernel) rfl dX8_addUp_50 ?_
            refine lv_aload X.1 X.2.1 dX8_addUp_53 (lv_at hl 1 rfl) ?_
            refine lv_aload X.1 X.2.1 dX8_addUp_55 (lv_at hl 0 rfl) ?_
            refine lv_iload_n X.1 X.2.1 dX8_addUp_57 rfl (lv_at hl 4 rfl) ?_
            refine lv_iload_n X.1 X.2.1 dX8_addUp_58 rfl (lv_at hl 5 rfl) ?_
            refine cSW [.ref (G.2.2 3), .ref (G.2.2 o5), .ref (G.2.2 o9), .int v2, .int v3] [] X hw hS (c_X3_put l G A M 3 (by decide : 2 ≤ 3 ∧ 3 < 5) o5 ho5 o9 ho9 v2 v3 (by omega)) (va_cwS 5 X.2.2.2.2 gX8_addUp_X3_put rfl rfl rfl (by decide +kernel) ⟨Nat.le_of_ble_eq_true rfl, Nat.le_of_ble_eq_true rfl⟩)  rfl rfl hl.1 (Nat.le_of_ble_eq_true rfl) dX8_addUp_59 (fun H locs hw hS => ?_)
            refine tpb (fun M11 eM11 => ?_)
            rw [← eM11] at hw
            refine lv_aload_n X.1 X.2.1 dX8_addUp_62 rfl (lv_at hl 2 rfl) ?_
            refine gF X hw (by decide) hk_RB rfl (by decide +kernel) 3 (by decide) (ref := "RankBench") rfl (by decide +kernel) rfl dX8_addUp_63 ?_
            refine lv_aload_n X.1 X.2.1 dX8_addUp_66 rfl (lv_at hl 2 rfl) ?_
            refine gF X hw (by decide) hk_RB rfl (by decide +kernel) 2 (by decide) (ref := "RankBench") rfl (by decide +kernel) rfl dX8_addUp_67 ?_
            refine lv_lconst (v := 1) X.1 X.2.1 dX8_addUp_70 (by decide) ?_
            refine cVW [.ref (G.2.2 3), .long 1] [] X hw hS (c_X1_add l G A M11 4 (by decide : 2 ≤ 4 ∧ 4 < 5) 3 (by decide : 2 ≤ 3 ∧ 3 < 5) 1) (cwV 2 X.2.2.2.2 gX8_addUp_X1_add rfl rfl rfl (by decide +kernel) ⟨Nat.le_of_ble_eq_true rfl, Nat.le_of_ble_eq_true rfl⟩) (hw.recv (lt98 (by have h9 := (by decide : 2 ≤ 4 ∧ 4 < 5); omega)) (hk_Fr (by decide : 2 ≤ 4 ∧ 4 < 5)) rfl) rfl rfl hl.1 (Nat.le_of_ble_eq_true rfl) dX8_addUp_71 (fun H locs hw hS => ?_)
            refine tpb (fun M12 eM12 => ?_)
            rw [← eM12] at hw
            refine lv_iinc (v := (v4 + 1)) (lv' := [(4, .int (v4 + 1)), (7, .ref (G.2.2 o9)), (6, .ref (G.2.2 o5)), (0, .ref (G.2.2 0)), (1, .int v1), (2, .int v2), (3, .int v3), (5, .int v5)]) X.1 X.2.1 dX8_addUp_74 hl (k := 6) rfl rfl (by decide) rfl (fun ls hl => ?_)
            refine lv_iinc (v := (v5 + 1)) (lv' := [(5, .int (v5 + 1)), (4, .int (v4 + 1)), (7, .ref (G.2.2 o9)), (6, .ref (G.2.2 o5)), (0, .ref (G.2.2 0)), (1, .int v1), (2, .int v2), (3, .int v3)]) X.1 X.2.1 dX8_addUp_77 hl (k := 7) rfl rfl (by decide) rfl (fun ls hl => ?_)
            refine lv_goto (tgt := 15) X.1 X.2.1 dX8_addUp_80 (by decide) ?_
            have q13 := inc_sp v4
            have q14 := inc_sp v5
            exact ih1 M12 v1 v2 v3 (v4 + 1) (v5 + 1) (by omega) (by omega) (by omega) _ _ hw hS ls (lv_sub hl [4, 5, 6, 7, 1, 0] rfl)
  exact L1 9 M1 a1 a2 a3 0 0 (by decide) (by first | omega | decide) (by first | omega | decide) _ _ hw hS ls (lv_sub hl [2, 3, 4, 5, 1, 0] rfl)

def f_X8_mean (M : Mem) (a1 : Int32) (a2 : Int32) (a3 : Int32) : Int32 × Mem := bnd (f_X8_isRanker a1) (fun r1 => if r1 = 0 then ((-1), M) else (bnd (f_X8_hasMean a2) (fun r4 => if r4 = 0 then ((-2), M) else (bnd (f_X8_isDepth a3) (fun r8 => if r8 = 0 then ((-2), M) else (bnd (f_X8_addUp M a1 a2 a3) (fun p11 => bnd p11.1 (fun x12 => if x12 = 0 then ((-3), p11.2) else (bnd (f_X1_above p11.2 4) (fun r15 => bnd (f_X1_below p11.2 4) (fun r16 => bnd (f_X1_become p11.2 2 r15 (r16 * x12.toInt64)) (fun M17 => (x12, M17)))))))))))))
set_option maxRecDepth 100000 in
set_option maxHeartbeats 4000000 in
theorem c_X8_mean (l : Launch) (G : En) (A : Nat → Prop) (M : Mem) (a1 : Int32) (a2 : Int32) (a3 : Int32) : WrI true l yX8_mean wsX8_mean ({ frames := 6, cells := 0, slots := 0, locals := 153 }) G A M [.ref (G.2.2 0), .int a1, .int a2, .int a3] (f_X8_mean M a1 a2 a3) := by
  refine WrI.of (cc := cX8_mean) (maxL := 5) (ret := (some .int)) (own := RX8) (by decide) rfl rfl (Nat.le_of_ble_eq_true rfl) ?_
  intro p e s m below meth c X hw hr hlk ls hl hS
  have hl : lv_has ls 5 [(0, .ref (G.2.2 0)), (1, .int a1), (2, .int a2), (3, .int a3)] := hl
  unfold f_X8_mean
  refine lv_iload_n X.1 X.2.1 dX8_mean_0 rfl (lv_at hl 1 rfl) ?_
  refine cSI [.int a1] [] X hw (c_X8_isRanker l G A M a1) (va_cwS 1 X.2.2.2.2 gX8_mean_X8_isRanker rfl rfl rfl (by decide +kernel) ⟨Nat.le_of_ble_eq_true rfl, Nat.le_of_ble_eq_true rfl⟩)  rfl rfl hl.1 (Nat.le_of_ble_eq_true rfl) dX8_mean_1 ?_
  refine tni (fun r1 er1 => ?_)
  refine bz_ne (tgt := 9) X dX8_mean_4 (by decide) (fun c2 => ?_) (fun c2 => ?_)
  · skip
    have t3 : ¬ r1.toInt = 0 := i_ne c2
    refine lv_iload_n X.1 X.2.1 dX8_mean_9 rfl (lv_at hl 2 rfl) ?_
    refine cSI [.int a2] [] X hw (c_X8_hasMean l G A M a2) (va_cwS 1 X.2.2.2.2 gX8_mean_X8_hasMean rfl rfl rfl (by decide +kernel) ⟨Nat.le_of_ble_eq_true rfl, Nat.le_of_ble_eq_true rfl⟩)  rfl rfl hl.1 (Nat.le_of_ble_eq_true rfl) dX8_mean_10 ?_
    refine tni (fun r4 er4 => ?_)
    refine bz_eq (tgt := 23) X dX8_mean_13 (by decide) (fun c5 => ?_) (fun c5 => ?_)
    · skip
      have t6 : r4.toInt = 0 := i_eq c5
      refine lv_bipush (v := (-2)) X.1 X.2.1 dX8_mean_23 (by decide) ?_
      exact rQ X hr hlk hw hS dX8_mean_25
    · skip
      have t7 : ¬ r4.toInt = 0 := i_ne c5
      refine lv_iload_n X.1 X.2.1 dX8_mean_16 rfl (lv_at hl 3 rfl) ?_
      refine cSI [.int a3] [] X hw (c_X8_isDepth l G A M a3) (va_cwS 1 X.2.2.2.2 gX8_mean_X8_isDepth rfl rfl rfl (by decide +kernel) ⟨Nat.le_of_ble_eq_true rfl, Nat.le_of_ble_eq_true rfl⟩)  rfl rfl hl.1 (Nat.le_of_ble_eq_true rfl) dX8_mean_17 ?_
      refine tni (fun r8 er8 => ?_)
      have qr8 := dep_or er8
      refine bz_ne (tgt := 26) X dX8_mean_20 (by decide) (fun c9 => ?_) (fun c9 => ?_)
      · skip
        have t10 : ¬ r8.toInt = 0 := i_ne c9
        refine lv_aload_n X.1 X.2.1 dX8_mean_26 rfl (lv_at hl 0 rfl) ?_
        refine lv_iload_n X.1 X.2.1 dX8_mean_27 rfl (lv_at hl 1 rfl) ?_
        refine lv_iload_n X.1 X.2.1 dX8_mean_28 rfl (lv_at hl 2 rfl) ?_
        refine lv_iload_n X.1 X.2.1 dX8_mean_29 rfl (lv_at hl 3 rfl) ?_
        refine cVJ [.int a1, .int a2, .int a3] [] X hw hS (c_X8_addUp l G A M a1 a2 a3 (by omega)) (cwV 3 X.2.2.2.2 gX8_mean_X8_addUp rfl rfl rfl (by decide +kernel) ⟨Nat.le_of_ble_eq_true rfl, Nat.le_of_ble_eq_true rfl⟩) (hw.recv (by decide) hk_RB rfl) rfl rfl hl.1 (Nat.le_of_ble_eq_true rfl) dX8_mean_30 (fun H locs hw hS => ?_)
        refine tpb (fun p11 ep11 => ?_)
        rw [← ep11] at hw
        rw [← ep11]
        refine tni (fun x12 ex12 => ?_)
        refine lv_istore (lv' := [(4, .int x12), (0, .ref (G.2.2 0)), (1, .int a1), (2, .int a2), (3, .int a3)]) X.1 X.2.1 dX8_mean_33 hl (by decide) rfl (fun ls hl => ?_)
        refine lv_iload X.1 X.2.1 dX8_mean_35 (lv_at hl 0 rfl) ?_
        refine bz_ne (tgt := 43) X dX8_mean_37 (by decide) (fun c13 => ?_) (fun c13 => ?_)
        · skip
          have t14 : ¬ x12.toInt = 0 := i_ne c13
          refine lv_aload_n X.1 X.2.1 dX8_mean_43 rfl (lv_at hl 1 rfl) ?_
          refine gF X hw (by decide) hk_RB rfl (by decide +kernel) 1 (by decide) (ref := "RankBench") rfl (by decide +kernel) rfl dX8_mean_44 ?_
          refine lv_aload_n X.1 X.2.1 dX8_mean_47 rfl (lv_at hl 1 rfl) ?_
          refine gF X hw (by decide) hk_RB rfl (by decide +kernel) 3 (by decide) (ref := "RankBench") rfl (by decide +kernel) rfl dX8_mean_48 ?_
          refine cVL [] [.ref (G.2.2 2)] X hw (c_X1_above l G A p11.2 4 (by decide : 2 ≤ 4 ∧ 4 < 5)) (cwV 0 X.2.2.2.2 gX8_mean_X1_above rfl rfl rfl (by decide +kernel) ⟨Nat.le_of_ble_eq_true rfl, Nat.le_of_ble_eq_true rfl⟩) (hw.recv (lt98 (by have h9 := (by decide : 2 ≤ 4 ∧ 4 < 5); omega)) (hk_Fr (by decide : 2 ≤ 4 ∧ 4 < 5)) rfl) rfl rfl hl.1 (Nat.le_of_ble_eq_true rfl) dX8_mean_51 ?_
          refine tnl (fun r15 er15 => ?_)
          refine lv_aload_n X.1 X.2.1 dX8_mean_54 rfl (lv_at hl 1 rfl) ?_
          refine gF X hw (by decide) hk_RB rfl (by decide +kernel) 3 (by decide) (ref := "RankBench") rfl (by decide +kernel) rfl dX8_mean_55 ?_
          refine cVL [] [.long r15, .ref (G.2.2 2)] X hw (c_X1_below l G A p11.2 4 (by decide : 2 ≤ 4 ∧ 4 < 5)) (cwV 0 X.2.2.2.2 gX8_mean_X1_below rfl rfl rfl (by decide +kernel) ⟨Nat.le_of_ble_eq_true rfl, Nat.le_of_ble_eq_true rfl⟩) (hw.recv (lt98 (by have h9 := (by decide : 2 ≤ 4 ∧ 4 < 5); omega)) (hk_Fr (by decide : 2 ≤ 4 ∧ 4 < 5)) rfl) rfl rfl hl.1 (Nat.le_of_ble_eq_true rfl) dX8_mean_58 ?_
          refine tnl (fun r16 er16 => ?_)
          refine lv_iload X.1 X.2.1 dX8_mean_61 (lv_at hl 0 rfl) ?_
          refine lv_i2l (v := x12.toInt64) X.1 X.2.1 dX8_mean_63 rfl ?_
          refine lv_lmul X.1 X.2.1 dX8_mean_64 ?_
          refine cVW [.long r15, .long (r16 * x12.toInt64)] [] X hw hS (c_X1_become l G A p11.2 2 (by decide : 2 ≤ 2 ∧ 2 < 5) r15 (r16 * x12.toInt64)) (cwV 2 X.2.2.2.2 gX8_mean_X1_become rfl rfl rfl (by decide +kernel) ⟨Nat.le_of_ble_eq_true rfl, Nat.le_of_ble_eq_true rfl⟩) (hw.recv (lt98 (by have h9 := (by decide : 2 ≤ 2 ∧ 2 < 5); omega)) (hk_Fr (by decide : 2 ≤ 2 ∧ 2 < 5)) rfl) rfl rfl hl.1 (Nat.le_of_ble_eq_true rfl) dX8_mean_65 (fun H locs hw hS => ?_)
          refine tpb (fun M17 eM17 => ?_)
          rw [← eM17] at hw
          refine lv_iload X.1 X.2.1 dX8_mean_68 (lv_at hl 0 rfl) ?_
          exact rQ X hr hlk hw hS dX8_mean_70
        · skip
          have t18 : x12.toInt = 0 := i_eq c13
          refine lv_bipush (v := (-3)) X.1 X.2.1 dX8_mean_40 (by decide) ?_
          exact rQ X hr hlk hw hS dX8_mean_42
      · skip
        have t19 : r8.toInt = 0 := i_eq c9
        refine lv_bipush (v := (-2)) X.1 X.2.1 dX8_mean_23 (by decide) ?_
        exact rQ X hr hlk hw hS dX8_mean_25
  · skip
    have t20 : r1.toInt = 0 := i_eq c2
    refine lv_iconst (v := (-1)) X.1 X.2.1 dX8_mean_7 (by decide) ?_
    exact rQ X hr hlk hw hS dX8_mean_8

def f_X8_likeness (M : Mem) (a1 : Int32) (a2 : Int32) (a3 : Int32) : Int32 × Mem := oc (f_X8_rowOf M a1 a3) (oc (f_X8_rowOf M a2 a3) ((-1), M) (fun o2 => ((-1), M))) (fun o1 => oc (f_X8_rowOf M a2 a3) ((-1), M) (fun o3 => bnd (f_X5_putLikeness M 2 o1 o3) (fun p4 => (p4.1, p4.2))))
set_option maxRecDepth 100000 in
set_option maxHeartbeats 4000000 in
theorem c_X8_likeness (l : Launch) (G : En) (A : Nat → Prop) (M : Mem) (a1 : Int32) (a2 : Int32) (a3 : Int32) : WrI true l yX8_likeness wsX8_likeness ({ frames := 4, cells := 0, slots := 0, locals := 99 }) G A M [.ref (G.2.2 0), .int a1, .int a2, .int a3] (f_X8_likeness M a1 a2 a3) := by
  refine WrI.of (cc := cX8_likeness) (maxL := 6) (ret := (some .int)) (own := RX8) (by decide) rfl rfl (Nat.le_of_ble_eq_true rfl) ?_
  intro p e s m below meth c X hw hr hlk ls hl hS
  have hl : lv_has ls 6 [(0, .ref (G.2.2 0)), (1, .int a1), (2, .int a2), (3, .int a3)] := hl
  unfold f_X8_likeness
  refine lv_aload_n X.1 X.2.1 dX8_likeness_0 rfl (lv_at hl 0 rfl) ?_
  refine lv_iload_n X.1 X.2.1 dX8_likeness_1 rfl (lv_at hl 1 rfl) ?_
  refine lv_iload_n X.1 X.2.1 dX8_likeness_2 rfl (lv_at hl 3 rfl) ?_
  refine cVO [.int a1, .int a3] [] X hw (c_X8_rowOf l G A M a1 a3) (cwV 2 X.2.2.2.2 gX8_likeness_X8_rowOf rfl rfl rfl (by decide +kernel) ⟨Nat.le_of_ble_eq_true rfl, Nat.le_of_ble_eq_true rfl⟩) (hw.recv (by decide) hk_RB rfl) rfl rfl hl.1 (Nat.le_of_ble_eq_true rfl) dX8_likeness_3 ?_
  refine tno (fun eo1 => ?_) (fun o1 eo1 => ?_)
  · skip
    refine lv_astoreN (lv' := [(4, .null), (0, .ref (G.2.2 0)), (1, .int a1), (2, .int a2), (3, .int a3)]) X.1 X.2.1 dX8_likeness_6 hl (by decide) rfl (fun ls hl => ?_)
    refine lv_aload_n X.1 X.2.1 dX8_likeness_8 rfl (lv_at hl 1 rfl) ?_
    refine lv_iload_n X.1 X.2.1 dX8_likeness_9 rfl (lv_at hl 3 rfl) ?_
    refine lv_iload_n X.1 X.2.1 dX8_likeness_10 rfl (lv_at hl 4 rfl) ?_
    refine cVO [.int a2, .int a3] [] X hw (c_X8_rowOf l G A M a2 a3) (cwV 2 X.2.2.2.2 gX8_likeness_X8_rowOf rfl rfl rfl (by decide +kernel) ⟨Nat.le_of_ble_eq_true rfl, Nat.le_of_ble_eq_true rfl⟩) (hw.recv (by decide) hk_RB rfl) rfl rfl hl.1 (Nat.le_of_ble_eq_true rfl) dX8_likeness_11 ?_
    refine tno (fun eo2 => ?_) (fun o2 eo2 => ?_)
    · skip
      refine lv_astoreN (lv' := [(5, .null), (4, .null), (0, .ref (G.2.2 0)), (1, .int a1), (2, .int a2), (3, .int a3)]) X.1 X.2.1 dX8_likeness_14 hl (by decide) rfl (fun ls hl => ?_)
      refine lv_aloadN X.1 X.2.1 dX8_likeness_16 (lv_at hl 1 rfl) ?_
      refine lv_ifnullN (tgt := 26) X.1 X.2.1 dX8_likeness_18 (by decide) ?_
      refine lv_iconst (v := (-1)) X.1 X.2.1 dX8_likeness_26 (by decide) ?_
      exact rQ X hr hlk hw hS dX8_likeness_27
    · skip
      have ho2 : 34 ≤ o2 ∧ o2 < 66 := b_X8_rowOf eo2
      refine lv_astore (lv' := [(5, .ref (G.2.2 o2)), (4, .null), (0, .ref (G.2.2 0)), (1, .int a1), (2, .int a2), (3, .int a3)]) X.1 X.2.1 dX8_likeness_14 hl (by decide) rfl (fun ls hl => ?_)
      refine lv_aloadN X.1 X.2.1 dX8_likeness_16 (lv_at hl 1 rfl) ?_
      refine lv_ifnullN (tgt := 26) X.1 X.2.1 dX8_likeness_18 (by decide) ?_
      refine lv_iconst (v := (-1)) X.1 X.2.1 dX8_likeness_26 (by decide) ?_
      exact rQ X hr hlk hw hS dX8_likeness_27
  · skip
    have ho1 : 34 ≤ o1 ∧ o1 < 66 := b_X8_rowOf eo1
    refine lv_astore (lv' := [(4, .ref (G.2.2 o1)), (0, .ref (G.2.2 0)), (1, .int a1), (2, .int a2), (3, .int a3)]) X.1 X.2.1 dX8_likeness_6 hl (by decide) rfl (fun ls hl => ?_)
    refine lv_aload_n X.1 X.2.1 dX8_likeness_8 rfl (lv_at hl 1 rfl) ?_
    refine lv_iload_n X.1 X.2.1 dX8_likeness_9 rfl (lv_at hl 3 rfl) ?_
    refine lv_iload_n X.1 X.2.1 dX8_likeness_10 rfl (lv_at hl 4 rfl) ?_
    refine cVO [.int a2, .int a3] [] X hw (c_X8_rowOf l G A M a2 a3) (cwV 2 X.2.2.2.2 gX8_likeness_X8_rowOf rfl rfl rfl (by decide +kernel) ⟨Nat.le_of_ble_eq_true rfl, Nat.le_of_ble_eq_true rfl⟩) (hw.recv (by decide) hk_RB rfl) rfl rfl hl.1 (Nat.le_of_ble_eq_true rfl) dX8_likeness_11 ?_
    refine tno (fun eo3 => ?_) (fun o3 eo3 => ?_)
    · skip
      refine lv_astoreN (lv' := [(5, .null), (4, .ref (G.2.2 o1)), (0, .ref (G.2.2 0)), (1, .int a1), (2, .int a2), (3, .int a3)]) X.1 X.2.1 dX8_likeness_14 hl (by decide) rfl (fun ls hl => ?_)
      refine lv_aload X.1 X.2.1 dX8_likeness_16 (lv_at hl 1 rfl) ?_
      refine lv_ifnull X.1 X.2.1 dX8_likeness_18 ?_
      refine lv_aloadN X.1 X.2.1 dX8_likeness_21 (lv_at hl 0 rfl) ?_
      refine lv_ifnonnullN X.1 X.2.1 dX8_likeness_23 ?_
      refine lv_iconst (v := (-1)) X.1 X.2.1 dX8_likeness_26 (by decide) ?_
      exact rQ X hr hlk hw hS dX8_likeness_27
    · skip
      have ho3 : 34 ≤ o3 ∧ o3 < 66 := b_X8_rowOf eo3
      refine lv_astore (lv' := [(5, .ref (G.2.2 o3)), (4, .ref (G.2.2 o1)), (0, .ref (G.2.2 0)), (1, .int a1), (2, .int a2), (3, .int a3)]) X.1 X.2.1 dX8_likeness_14 hl (by decide) rfl (fun ls hl => ?_)
      refine lv_aload X.1 X.2.1 dX8_likeness_16 (lv_at hl 1 rfl) ?_
      refine lv_ifnull X.1 X.2.1 dX8_likeness_18 ?_
      refine lv_aload X.1 X.2.1 dX8_likeness_21 (lv_at hl 0 rfl) ?_
      refine lv_ifnonnull (tgt := 28) X.1 X.2.1 dX8_likeness_23 (by decide) ?_
      refine lv_aload_n X.1 X.2.1 dX8_likeness_28 rfl (lv_at hl 2 rfl) ?_
      refine gF X hw (by decide) hk_RB rfl (by decide +kernel) 1 (by decide) (ref := "RankBench") rfl (by decide +kernel) rfl dX8_likeness_29 ?_
      refine lv_aload X.1 X.2.1 dX8_likeness_32 (lv_at hl 1 rfl) ?_
      refine lv_aload X.1 X.2.1 dX8_likeness_34 (lv_at hl 0 rfl) ?_
      refine cSJ [.ref (G.2.2 2), .ref (G.2.2 o1), .ref (G.2.2 o3)] [] X hw hS (c_X5_putLikeness l G A M 2 (by decide : 2 ≤ 2 ∧ 2 < 5) o1 ho1 o3 ho3) (va_cwS 3 X.2.2.2.2 gX8_likeness_X5_putLikeness rfl rfl rfl (by decide +kernel) ⟨Nat.le_of_ble_eq_true rfl, Nat.le_of_ble_eq_true rfl⟩)  rfl rfl hl.1 (Nat.le_of_ble_eq_true rfl) dX8_likeness_36 (fun H locs hw hS => ?_)
      refine tpb (fun p4 ep4 => ?_)
      rw [← ep4] at hw
      rw [← ep4]
      exact rQ X hr hlk hw hS dX8_likeness_39

def f_X8_overlap (M : Mem) (a1 : Int32) (a2 : Int32) (a3 : Int32) (a4 : Int32) : Int32 × Mem := oc (f_X8_rowOf M a1 a3) (oc (f_X8_rowOf M a2 a3) ((-1), M) (fun o2 => ((-1), M))) (fun o1 => oc (f_X8_rowOf M a2 a3) ((-1), M) (fun o3 => bnd (f_X8_isDepth a4) (fun r4 => if r4 = 0 then ((-2), M) else (bnd (f_X5_putOverlap M 2 o1 o3 a4) (fun M7 => (1, M7))))))
set_option maxRecDepth 100000 in
set_option maxHeartbeats 4000000 in
theorem c_X8_overlap (l : Launch) (G : En) (A : Nat → Prop) (M : Mem) (a1 : Int32) (a2 : Int32) (a3 : Int32) (a4 : Int32) : WrI true l yX8_overlap wsX8_overlap ({ frames := 4, cells := 0, slots := 0, locals := 97 }) G A M [.ref (G.2.2 0), .int a1, .int a2, .int a3, .int a4] (f_X8_overlap M a1 a2 a3 a4) := by
  refine WrI.of (cc := cX8_overlap) (maxL := 7) (ret := (some .int)) (own := RX8) (by decide) rfl rfl (Nat.le_of_ble_eq_true rfl) ?_
  intro p e s m below meth c X hw hr hlk ls hl hS
  have hl : lv_has ls 7 [(0, .ref (G.2.2 0)), (1, .int a1), (2, .int a2), (3, .int a3), (4, .int a4)] := hl
  unfold f_X8_overlap
  refine lv_aload_n X.1 X.2.1 dX8_overlap_0 rfl (lv_at hl 0 rfl) ?_
  refine lv_iload_n X.1 X.2.1 dX8_overlap_1 rfl (lv_at hl 1 rfl) ?_
  refine lv_iload_n X.1 X.2.1 dX8_overlap_2 rfl (lv_at hl 3 rfl) ?_
  refine cVO [.int a1, .int a3] [] X hw (c_X8_rowOf l G A M a1 a3) (cwV 2 X.2.2.2.2 gX8_overlap_X8_rowOf rfl rfl rfl (by decide +kernel) ⟨Nat.le_of_ble_eq_true rfl, Nat.le_of_ble_eq_true rfl⟩) (hw.recv (by decide) hk_RB rfl) rfl rfl hl.1 (Nat.le_of_ble_eq_true rfl) dX8_overlap_3 ?_
  refine tno (fun eo1 => ?_) (fun o1 eo1 => ?_)
  · skip
    refine lv_astoreN (lv' := [(5, .null), (0, .ref (G.2.2 0)), (1, .int a1), (2, .int a2), (3, .int a3), (4, .int a4)]) X.1 X.2.1 dX8_overlap_6 hl (by decide) rfl (fun ls hl => ?_)
    refine lv_aload_n X.1 X.2.1 dX8_overlap_8 rfl (lv_at hl 1 rfl) ?_
    refine lv_iload_n X.1 X.2.1 dX8_overlap_9 rfl (lv_at hl 3 rfl) ?_
    refine lv_iload_n X.1 X.2.1 dX8_overlap_10 rfl (lv_at hl 4 rfl) ?_
    refine cVO [.int a2, .int a3] [] X hw (c_X8_rowOf l G A M a2 a3) (cwV 2 X.2.2.2.2 gX8_overlap_X8_rowOf rfl rfl rfl (by decide +kernel) ⟨Nat.le_of_ble_eq_true rfl, Nat.le_of_ble_eq_true rfl⟩) (hw.recv (by decide) hk_RB rfl) rfl rfl hl.1 (Nat.le_of_ble_eq_true rfl) dX8_overlap_11 ?_
    refine tno (fun eo2 => ?_) (fun o2 eo2 => ?_)
    · skip
      refine lv_astoreN (lv' := [(6, .null), (5, .null), (0, .ref (G.2.2 0)), (1, .int a1), (2, .int a2), (3, .int a3), (4, .int a4)]) X.1 X.2.1 dX8_overlap_14 hl (by decide) rfl (fun ls hl => ?_)
      refine lv_aloadN X.1 X.2.1 dX8_overlap_16 (lv_at hl 1 rfl) ?_
      refine lv_ifnullN (tgt := 26) X.1 X.2.1 dX8_overlap_18 (by decide) ?_
      refine lv_iconst (v := (-1)) X.1 X.2.1 dX8_overlap_26 (by decide) ?_
      exact rQ X hr hlk hw hS dX8_overlap_27
    · skip
      have ho2 : 34 ≤ o2 ∧ o2 < 66 := b_X8_rowOf eo2
      refine lv_astore (lv' := [(6, .ref (G.2.2 o2)), (5, .null), (0, .ref (G.2.2 0)), (1, .int a1), (2, .int a2), (3, .int a3), (4, .int a4)]) X.1 X.2.1 dX8_overlap_14 hl (by decide) rfl (fun ls hl => ?_)
      refine lv_aloadN X.1 X.2.1 dX8_overlap_16 (lv_at hl 1 rfl) ?_
      refine lv_ifnullN (tgt := 26) X.1 X.2.1 dX8_overlap_18 (by decide) ?_
      refine lv_iconst (v := (-1)) X.1 X.2.1 dX8_overlap_26 (by decide) ?_
      exact rQ X hr hlk hw hS dX8_overlap_27
  · skip
    have ho1 : 34 ≤ o1 ∧ o1 < 66 := b_X8_rowOf eo1
    refine lv_astore (lv' := [(5, .ref (G.2.2 o1)), (0, .ref (G.2.2 0)), (1, .int a1), (2, .int a2), (3, .int a3), (4, .int a4)]) X.1 X.2.1 dX8_overlap_6 hl (by decide) rfl (fun ls hl => ?_)
    refine lv_aload_n X.1 X.2.1 dX8_overlap_8 rfl (lv_at hl 1 rfl) ?_
    refine lv_iload_n X.1 X.2.1 dX8_overlap_9 rfl (lv_at hl 3 rfl) ?_
    refine lv_iload_n X.1 X.2.1 dX8_overlap_10 rfl (lv_at hl 4 rfl) ?_
    refine cVO [.int a2, .int a3] [] X hw (c_X8_rowOf l G A M a2 a3) (cwV 2 X.2.2.2.2 gX8_overlap_X8_rowOf rfl rfl rfl (by decide +kernel) ⟨Nat.le_of_ble_eq_true rfl, Nat.le_of_ble_eq_true rfl⟩) (hw.recv (by decide) hk_RB rfl) rfl rfl hl.1 (Nat.le_of_ble_eq_true rfl) dX8_overlap_11 ?_
    refine tno (fun eo3 => ?_) (fun o3 eo3 => ?_)
    · skip
      refine lv_astoreN (lv' := [(6, .null), (5, .ref (G.2.2 o1)), (0, .ref (G.2.2 0)), (1, .int a1), (2, .int a2), (3, .int a3), (4, .int a4)]) X.1 X.2.1 dX8_overlap_14 hl (by decide) rfl (fun ls hl => ?_)
      refine lv_aload X.1 X.2.1 dX8_overlap_16 (lv_at hl 1 rfl) ?_
      refine lv_ifnull X.1 X.2.1 dX8_overlap_18 ?_
      refine lv_aloadN X.1 X.2.1 dX8_overlap_21 (lv_at hl 0 rfl) ?_
      refine lv_ifnonnullN X.1 X.2.1 dX8_overlap_23 ?_
      refine lv_iconst (v := (-1)) X.1 X.2.1 dX8_overlap_26 (by decide) ?_
      exact rQ X hr hlk hw hS dX8_overlap_27
    · skip
      have ho3 : 34 ≤ o3 ∧ o3 < 66 := b_X8_rowOf eo3
      refine lv_astore (lv' := [(6, .ref (G.2.2 o3)), (5, .ref (G.2.2 o1)), (0, .ref (G.2.2 0)), (1, .int a1), (2, .int a2), (3, .int a3), (4, .int a4)]) X.1 X.2.1 dX8_overlap_14 hl (by decide) rfl (fun ls hl => ?_)
      refine lv_aload X.1 X.2.1 dX8_overlap_16 (lv_at hl 1 rfl) ?_
      refine lv_ifnull X.1 X.2.1 dX8_overlap_18 ?_
      refine lv_aload X.1 X.2.1 dX8_overlap_21 (lv_at hl 0 rfl) ?_
      refine lv_ifnonnull (tgt := 28) X.1 X.2.1 dX8_overlap_23 (by decide) ?_
      refine lv_iload X.1 X.2.1 dX8_overlap_28 (lv_at hl 6 rfl) ?_
      refine cSI [.int a4] [] X hw (c_X8_isDepth l G A M a4) (va_cwS 1 X.2.2.2.2 gX8_overlap_X8_isDepth rfl rfl rfl (by decide +kernel) ⟨Nat.le_of_ble_eq_true rfl, Nat.le_of_ble_eq_true rfl⟩)  rfl rfl hl.1 (Nat.le_of_ble_eq_true rfl) dX8_overlap_30 ?_
      refine tni (fun r4 er4 => ?_)
      have qr4 := dep_or er4
      refine bz_ne (tgt := 39) X dX8_overlap_33 (by decide) (fun c5 => ?_) (fun c5 => ?_)
      · skip
        have t6 : ¬ r4.toInt = 0 := i_ne c5
        refine lv_aload_n X.1 X.2.1 dX8_overlap_39 rfl (lv_at hl 2 rfl) ?_
        refine gF X hw (by decide) hk_RB rfl (by decide +kernel) 1 (by decide) (ref := "RankBench") rfl (by decide +kernel) rfl dX8_overlap_40 ?_
        refine lv_aload X.1 X.2.1 dX8_overlap_43 (lv_at hl 1 rfl) ?_
        refine lv_aload X.1 X.2.1 dX8_overlap_45 (lv_at hl 0 rfl) ?_
        refine lv_iload X.1 X.2.1 dX8_overlap_47 (lv_at hl 6 rfl) ?_
        refine cSW [.ref (G.2.2 2), .ref (G.2.2 o1), .ref (G.2.2 o3), .int a4] [] X hw hS (c_X5_putOverlap l G A M 2 (by decide : 2 ≤ 2 ∧ 2 < 5) o1 ho1 o3 ho3 a4 (by omega)) (va_cwS 4 X.2.2.2.2 gX8_overlap_X5_putOverlap rfl rfl rfl (by decide +kernel) ⟨Nat.le_of_ble_eq_true rfl, Nat.le_of_ble_eq_true rfl⟩)  rfl rfl hl.1 (Nat.le_of_ble_eq_true rfl) dX8_overlap_49 (fun H locs hw hS => ?_)
        refine tpb (fun M7 eM7 => ?_)
        rw [← eM7] at hw
        refine lv_iconst (v := 1) X.1 X.2.1 dX8_overlap_52 (by decide) ?_
        exact rQ X hr hlk hw hS dX8_overlap_53
      · skip
        have t8 : r4.toInt = 0 := i_eq c5
        refine lv_bipush (v := (-2)) X.1 X.2.1 dX8_overlap_36 (by decide) ?_
        exact rQ X hr hlk hw hS dX8_overlap_38
