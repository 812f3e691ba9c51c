/-! 60.mrows -/
def f_X9_likeness_42 (K : Int32 → Int64 → Int32 × Mem) : Nat → Mem → Int32 → Int32 → Int32 → Int32 → Int32 → Int64 → Int32 → Int32 × Mem
  | 0, M, _, _, _, _, _, _, _ => (0, M)
  | n2 + 1, M, v1, v2, v3, v7, u4, u5, u8 => if (24 : Int32) ≤ u8 then (K u4 u5) else (bnd (f_X9_size M v1 v3) (fun r18 => bnd (f_X9_size M v2 v3) (fun r19 => bnd (f_X9_find M v1 v3 v7) (fun r20 => bnd (f_X9_find M v1 v3 u8) (fun r21 => bnd (f_X9_find M v2 v3 v7) (fun r22 => bnd (f_X9_find M v2 v3 u8) (fun r23 => if r18 ≤ r20 then (f_X9_likeness_42 K n2 M v1 v2 v3 v7 u4 u5 (u8 + 1)) else (if r18 ≤ r21 then (f_X9_likeness_42 K n2 M v1 v2 v3 v7 u4 u5 (u8 + 1)) else (if r19 ≤ r22 then (f_X9_likeness_42 K n2 M v1 v2 v3 v7 u4 u5 (u8 + 1)) else (if r19 ≤ r23 then (f_X9_likeness_42 K n2 M v1 v2 v3 v7 u4 u5 (u8 + 1)) else (if r21 ≤ r20 then (if r23 ≤ r22 then (bnd (u5 + 1) (fun w45 => f_X9_likeness_42 K n2 M v1 v2 v3 v7 (u4 + 1) w45 (u8 + 1))) else (bnd (u5 + (-1)) (fun w50 => f_X9_likeness_42 K n2 M v1 v2 v3 v7 (u4 + 1) w50 (u8 + 1)))) else (if r23 ≤ r22 then (bnd (u5 + (-1)) (fun w57 => f_X9_likeness_42 K n2 M v1 v2 v3 v7 (u4 + 1) w57 (u8 + 1))) else (bnd (u5 + 1) (fun w62 => f_X9_likeness_42 K n2 M v1 v2 v3 v7 (u4 + 1) w62 (u8 + 1)))))))))))))))
def f_X9_likeness_29 : Nat → Mem → Int32 → Int32 → Int32 → Int32 → Int64 → Int32 → Int32 × Mem
  | 0, M, _, _, _, _, _, _ => (0, M)
  | n1 + 1, M, v1, v2, v3, v4, v5, v7 => if (24 : Int32) ≤ v7 then (bnd (f_X9_make M v5 v4.toInt64) (fun M10 => bnd (f_X9_show M10) (fun M11 => (v4, M11)))) else (bnd (v7 + 1) (fun x13 => f_X9_likeness_42 (fun y4 y5 => f_X9_likeness_29 n1 M v1 v2 v3 y4 y5 (v7 + 1)) ((24 - x13.toInt : Int).toNat + 1) M v1 v2 v3 v7 v4 v5 x13))
def f_X9_likeness (M : Mem) (a1 : Int32) (a2 : Int32) (a3 : Int32) : Int32 × Mem := bnd (f_X9_isRow M a1 a3) (fun r1 => if r1 = 0 then ((-1), M) else (bnd (f_X9_isRow M a2 a3) (fun r5 => if r5 = 0 then ((-1), M) else (f_X9_likeness_29 25 M a1 a2 a3 0 0 0))))
set_option maxRecDepth 100000 in
set_option maxHeartbeats 4000000 in
theorem c_X9_likeness (l : Launch) (G : En) (A : Nat → Prop) (M : Mem) (a1 : Int32) (a2 : Int32) (a3 : Int32) : WrI false l yX9_likeness wsX9_likeness ({ frames := 2, cells := 0, slots := 0, locals := 55 }) G A M [.ref (G.2.2 0), .int a1, .int a2, .int a3] (f_X9_likeness M a1 a2 a3) := by
  refine WrI.of (cc := cX9_likeness) (maxL := 15) (ret := (some .int)) (own := RX9) (by decide) rfl rfl (Nat.le_of_ble_eq_true rfl) ?_
  intro p e s m below meth c X hw hr hlk ls hl hS
  have hl : lv_has ls 15 [(0, .ref (G.2.2 0)), (1, .int a1), (2, .int a2), (3, .int a3)] := hl
  unfold f_X9_likeness
  refine lv_aload_n X.1 X.2.1 dX9_likeness_0 rfl (lv_at hl 0 rfl) ?_
  refine lv_iload_n X.1 X.2.1 dX9_likeness_1 rfl (lv_at hl 1 rfl) ?_
  refine lv_iload_n X.1 X.2.1 dX9_likeness_2 rfl (lv_at hl 3 rfl) ?_
  refine cVI [.int a1, .int a3] [] X hw (c_X9_isRow l G A M a1 a3) (cwV 2 X.2.2.2.2 gX9_likeness_X9_isRow rfl rfl rfl (by decide +kernel) ⟨Nat.le_of_ble_eq_true rfl, Nat.le_of_ble_eq_true rfl⟩) (hw.recv (by decide) hm_MO rfl) rfl rfl hl.1 (Nat.le_of_ble_eq_true rfl) dX9_likeness_3 ?_
  refine tni (fun r1 er1 => ?_)
  have zr1 := row_or er1
  refine bz_eq (tgt := 18) X dX9_likeness_6 (by decide) (fun c2 => ?_) (fun c2 => ?_)
  · skip
    have t3 : r1.toInt = 0 := i_eq c2
    refine lv_iconst (v := (-1)) X.1 X.2.1 dX9_likeness_18 (by decide) ?_
    exact rQ X hr hlk hw hS dX9_likeness_19
  · skip
    have t4 : ¬ r1.toInt = 0 := i_ne c2
    refine lv_aload_n X.1 X.2.1 dX9_likeness_9 rfl (lv_at hl 0 rfl) ?_
    refine lv_iload_n X.1 X.2.1 dX9_likeness_10 rfl (lv_at hl 2 rfl) ?_
    refine lv_iload_n X.1 X.2.1 dX9_likeness_11 rfl (lv_at hl 3 rfl) ?_
    refine cVI [.int a2, .int a3] [] X hw (c_X9_isRow l G A M a2 a3) (cwV 2 X.2.2.2.2 gX9_likeness_X9_isRow rfl rfl rfl (by decide +kernel) ⟨Nat.le_of_ble_eq_true rfl, Nat.le_of_ble_eq_true rfl⟩) (hw.recv (by decide) hm_MO rfl) rfl rfl hl.1 (Nat.le_of_ble_eq_true rfl) dX9_likeness_12 ?_
    refine tni (fun r5 er5 => ?_)
    have zr5 := row_or er5
    refine bz_ne (tgt := 20) X dX9_likeness_15 (by decide) (fun c6 => ?_) (fun c6 => ?_)
    · skip
      have t7 : ¬ r5.toInt = 0 := i_ne c6
      refine lv_iconst (v := 0) X.1 X.2.1 dX9_likeness_20 (by decide) ?_
      refine lv_istore (lv' := [(4, .int 0), (0, .ref (G.2.2 0)), (1, .int a1), (2, .int a2), (3, .int a3)]) X.1 X.2.1 dX9_likeness_21 hl (by decide) rfl (fun ls hl => ?_)
      refine lv_lconst (v := 0) X.1 X.2.1 dX9_likeness_23 (by decide) ?_
      refine lv_lstore (lv' := [(5, .long 0), (4, .int 0), (0, .ref (G.2.2 0)), (1, .int a1), (2, .int a2), (3, .int a3)]) X.1 X.2.1 dX9_likeness_24 hl (by decide) rfl (fun ls hl => ?_)
      refine lv_iconst (v := 0) X.1 X.2.1 dX9_likeness_26 (by decide) ?_
      refine lv_istore (lv' := [(7, .int 0), (5, .long 0), (4, .int 0), (0, .ref (G.2.2 0)), (1, .int a1), (2, .int a2), (3, .int a3)]) X.1 X.2.1 dX9_likeness_27 hl (by decide) rfl (fun ls hl => ?_)
      have L1 : ∀ (n1 : Nat) (v1 : Int32) (v2 : Int32) (v3 : Int32) (v4 : Int32) (v5 : Int64) (v7 : Int32)  (hm1 : (24 - v7.toInt : Int).toNat < n1) (hi1_0 : 0 ≤ v7.toInt) (hi1_1 : 0 ≤ v1.toInt ∧ v1.toInt < 4) (hi1_2 : 0 ≤ v2.toInt ∧ v2.toInt < 4) (hi1_3 : 0 ≤ v3.toInt ∧ v3.toInt < 8), ∀ (H : Heap) (locs : List Loc), WD false G A M s H → va_S A s.heap H locs → ∀ ls : Array Slot, lv_has ls 15 [(0, .ref (G.2.2 0)), (1, .int v1), (2, .int v2), (3, .int v3), (4, .int v4), (5, .long v5), (7, .int v7)] → W p l e ({ frames := 2, cells := 0, slots := 0, locals := 55 } : Room) s m ([.ref (G.2.2 0), .int a1, .int a2, .int a3] : List Value).toArray below meth c H locs 0 0 (TQi false G A below ([.ref (G.2.2 0), .int a1, .int a2, .int a3] : List Value).toArray s (f_X9_likeness_29 n1 M v1 v2 v3 v4 v5 v7)) (F0 m 29 ls []) := by
        intro n1
        induction n1 with
        | zero => intro v1 v2 v3 v4 v5 v7 hm1 hi1_0 hi1_1 hi1_2 hi1_3; exact absurd hm1 (by omega)
        | succ n1 ih1 =>
          intro v1 v2 v3 v4 v5 v7 hm1 hi1_0 hi1_1 hi1_2 hi1_3 H locs hw hS ls hl
          rw [f_X9_likeness_29]
          refine lv_iload X.1 X.2.1 dX9_likeness_29 (lv_at hl 6 rfl) ?_
          refine lv_bipush (v := 24) X.1 X.2.1 dX9_likeness_31 (by decide) ?_
          refine bi_ge (tgt := 187) X dX9_likeness_33 (by decide) (fun c8 => ?_) (fun c8 => ?_)
          · skip
            have t9 : 24 ≤ v7.toInt := i_le c8
            refine lv_aload_n X.1 X.2.1 dX9_likeness_187 rfl (lv_at hl 0 rfl) ?_
            refine lv_lload X.1 X.2.1 dX9_likeness_188 (lv_at hl 5 rfl) ?_
            refine lv_iload X.1 X.2.1 dX9_likeness_190 (lv_at hl 4 rfl) ?_
            refine lv_i2l (v := v4.toInt64) X.1 X.2.1 dX9_likeness_192 rfl ?_
            refine cVW [.long v5, .long v4.toInt64] [] X hw hS (c_X9_make l G A M v5 v4.toInt64) (cwV 2 X.2.2.2.2 gX9_likeness_X9_make rfl rfl rfl (by decide +kernel) ⟨Nat.le_of_ble_eq_true rfl, Nat.le_of_ble_eq_true rfl⟩) (hw.recv (by decide) hm_MO rfl) rfl rfl hl.1 (Nat.le_of_ble_eq_true rfl) dX9_likeness_193 (fun H locs hw hS => ?_)
            refine tpb (fun M10 eM10 => ?_)
            rw [← eM10] at hw
            refine lv_aload_n X.1 X.2.1 dX9_likeness_196 rfl (lv_at hl 0 rfl) ?_
            refine cVW [] [] X hw hS (c_X9_show l G A M10 ) (cwV 0 X.2.2.2.2 gX9_likeness_X9_show rfl rfl rfl (by decide +kernel) ⟨Nat.le_of_ble_eq_true rfl, Nat.le_of_ble_eq_true rfl⟩) (hw.recv (by decide) hm_MO rfl) rfl rfl hl.1 (Nat.le_of_ble_eq_true rfl) dX9_likeness_197 (fun H locs hw hS => ?_)
            refine tpb (fun M11 eM11 => ?_)
            rw [← eM11] at hw
            refine lv_iload X.1 X.2.1 dX9_likeness_200 (lv_at hl 4 rfl) ?_
            exact rQ X hr hlk hw hS dX9_likeness_202
          · skip
            have t12 : v7.toInt < 24 := i_nle c8
            refine lv_iload X.1 X.2.1 dX9_likeness_36 (lv_at hl 6 rfl) ?_
            refine lv_iconst (v := 1) X.1 X.2.1 dX9_likeness_38 (by decide) ?_
            refine lv_iadd X.1 X.2.1 dX9_likeness_39 ?_
            refine tni (fun x13 ex13 => ?_)
            have q14 := inc_sp v7
            rw [← ex13] at q14
            refine lv_istore (lv' := [(8, .int x13), (0, .ref (G.2.2 0)), (1, .int v1), (2, .int v2), (3, .int v3), (4, .int v4), (5, .long v5), (7, .int v7)]) X.1 X.2.1 dX9_likeness_40 hl (by decide) rfl (fun ls hl => ?_)
            have L2 : ∀ (K : Int32 → Int64 → Int32 × Mem) (hK2 : ∀ (y4 : Int32) (y5 : Int64) , ∀ (H : Heap) (locs : List Loc), WD false G A M s H → va_S A s.heap H locs → ∀ ls : Array Slot, lv_has ls 15 [(0, .ref (G.2.2 0)), (1, .int v1), (2, .int v2), (3, .int v3), (4, .int y4), (5, .long y5), (7, .int v7)] → W p l e ({ frames := 2, cells := 0, slots := 0, locals := 55 } : Room) s m ([.ref (G.2.2 0), .int a1, .int a2, .int a3] : List Value).toArray below meth c H locs 0 0 (TQi false G A below ([.ref (G.2.2 0), .int a1, .int a2, .int a3] : List Value).toArray s (K y4 y5)) (F0 m 181 ls [])) (n2 : Nat) (u4 : Int32) (u5 : Int64) (u8 : Int32) (hm2 : (24 - u8.toInt : Int).toNat < n2) (hi2_0 : 0 ≤ u8.toInt), ∀ (H : Heap) (locs : List Loc), WD false G A M s H → va_S A s.heap H locs → ∀ ls : Array Slot, lv_has ls 15 [(0, .ref (G.2.2 0)), (1, .int v1), (2, .int v2), (3, .int v3), (4, .int u4), (5, .long u5), (7, .int v7), (8, .int u8)] → W p l e ({ frames := 2, cells := 0, slots := 0, locals := 55 } : Room) s m ([.ref (G.2.2 0), .int a1, .int a2, .int a3] : List Value).toArray below meth c H locs 0 0 (TQi false G A below ([.ref (G.2.2 0), .int a1, .int a2, .int a3] : List Value).toArray s (f_X9_likeness_42 K n2 M v1 v2 v3 v7 u4 u5 u8)) (F0 m 42 ls []) := by
              intro K hK2 n2
              induction n2 with
              | zero => intro u4 u5 u8 hm2 hi2_0; exact absurd hm2 (by omega)
              | succ n2 ih2 =>
                intro u4 u5 u8 hm2 hi2_0 H locs hw hS ls hl
                rw [f_X9_likeness_42]
                refine lv_iload X.1 X.2.1 dX9_likeness_42 (lv_at hl 7 rfl) ?_
                refine lv_bipush (v := 24) X.1 X.2.1 dX9_likeness_44 (by decide) ?_
                refine bi_ge (tgt := 181) X dX9_likeness_46 (by decide) (fun c15 => ?_) (fun c15 => ?_)
                · skip
                  have t16 : 24 ≤ u8.toInt := i_le c15
                  exact hK2 u4 u5 _ _ hw hS ls (lv_sub hl [0, 1, 2, 3, 4, 5, 6] rfl)
                · skip
                  have t17 : u8.toInt < 24 := i_nle c15
                  refine lv_aload_n X.1 X.2.1 dX9_likeness_49 rfl (lv_at hl 0 rfl) ?_
                  refine lv_iload_n X.1 X.2.1 dX9_likeness_50 rfl (lv_at hl 1 rfl) ?_
                  refine lv_iload_n X.1 X.2.1 dX9_likeness_51 rfl (lv_at hl 3 rfl) ?_
                  refine cVI [.int v1, .int v3] [] X hw (c_X9_size l G A M v1 v3 (by omega) (by omega)) (cwV 2 X.2.2.2.2 gX9_likeness_X9_size rfl rfl rfl (by decide +kernel) ⟨Nat.le_of_ble_eq_true rfl, Nat.le_of_ble_eq_true rfl⟩) (hw.recv (by decide) hm_MO rfl) rfl rfl hl.1 (Nat.le_of_ble_eq_true rfl) dX9_likeness_52 ?_
                  refine tni (fun r18 er18 => ?_)
                  have zr18 := g_X9_size hw.2.2.2.2 er18 (by omega) (by omega)
                  refine lv_istore (lv' := [(9, .int r18), (0, .ref (G.2.2 0)), (1, .int v1), (2, .int v2), (3, .int v3), (4, .int u4), (5, .long u5), (7, .int v7), (8, .int u8)]) X.1 X.2.1 dX9_likeness_55 hl (by decide) rfl (fun ls hl => ?_)
                  refine lv_aload_n X.1 X.2.1 dX9_likeness_57 rfl (lv_at hl 1 rfl) ?_
                  refine lv_iload_n X.1 X.2.1 dX9_likeness_58 rfl (lv_at hl 3 rfl) ?_
                  refine lv_iload_n X.1 X.2.1 dX9_likeness_59 rfl (lv_at hl 4 rfl) ?_
                  refine cVI [.int v2, .int v3] [] X hw (c_X9_size l G A M v2 v3 (by omega) (by omega)) (cwV 2 X.2.2.2.2 gX9_likeness_X9_size rfl rfl rfl (by decide +kernel) ⟨Nat.le_of_ble_eq_true rfl, Nat.le_of_ble_eq_true rfl⟩) (hw.recv (by decide) hm_MO rfl) rfl rfl hl.1 (Nat.le_of_ble_eq_true rfl) dX9_likeness_60 ?_
                  refine tni (fun r19 er19 => ?_)
                  have zr19 := g_X9_size hw.2.2.2.2 er19 (by omega) (by omega)
                  refine lv_istore (lv' := [(10, .int r19), (9, .int r18), (0, .ref (G.2.2 0)), (1, .int v1), (2, .int v2), (3, .int v3), (4, .int u4), (5, .long u5), (7, .int v7), (8, .int u8)]) X.1 X.2.1 dX9_likeness_63 hl (by decide) rfl (fun ls hl => ?_)
                  refine lv_aload_n X.1 X.2.1 dX9_likeness_65 rfl (lv_at hl 2 rfl) ?_
                  refine lv_iload_n X.1 X.2.1 dX9_likeness_66 rfl (lv_at hl 3 rfl) ?_
                  refine lv_iload_n X.1 X.2.1 dX9_likeness_67 rfl (lv_at hl 5 rfl) ?_
                  refine lv_iload X.1 X.2.1 dX9_likeness_68 (lv_at hl 8 rfl) ?_
                  refine cVI [.int v1, .int v3, .int v7] [] X hw (c_X9_find l G A M v1 v3 v7 (by omega) (by omega)) (cwV 3 X.2.2.2.2 gX9_likeness_X9_find rfl rfl rfl (by decide +kernel) ⟨Nat.le_of_ble_eq_true rfl, Nat.le_of_ble_eq_true rfl⟩) (hw.recv (by decide) hm_MO rfl) rfl rfl hl.1 (Nat.le_of_ble_eq_true rfl) dX9_likeness_70 ?_
                  refine tni (fun r20 er20 => ?_)
                  refine lv_istore (lv' := [(11, .int r20), (10, .int r19), (9, .int r18), (0, .ref (G.2.2 0)), (1, .int v1), (2, .int v2), (3, .int v3), (4, .int u4), (5, .long u5), (7, .int v7), (8, .int u8)]) X.1 X.2.1 dX9_likeness_73 hl (by decide) rfl (fun ls hl => ?_)
                  refine lv_aload_n X.1 X.2.1 dX9_likeness_75 rfl (lv_at hl 3 rfl) ?_
                  refine lv_iload_n X.1 X.2.1 dX9_likeness_76 rfl (lv_at hl 4 rfl) ?_
                  refine lv_iload_n X.1 X.2.1 dX9_likeness_77 rfl (lv_at hl 6 rfl) ?_
                  refine lv_iload X.1 X.2.1 dX9_likeness_78 (lv_at hl 10 rfl) ?_
                  refine cVI [.int v1, .int v3, .int u8] [] X hw (c_X9_find l G A M v1 v3 u8 (by omega) (by omega)) (cwV 3 X.2.2.2.2 gX9_likeness_X9_find rfl rfl rfl (by decide +kernel) ⟨Nat.le_of_ble_eq_true rfl, Nat.le_of_ble_eq_true rfl⟩) (hw.recv (by decide) hm_MO rfl) rfl rfl hl.1 (Nat.le_of_ble_eq_true rfl) dX9_likeness_80 ?_
                  refine tni (fun r21 er21 => ?_)
                  refine lv_istore (lv' := [(12, .int r21), (11, .int r20), (10, .int r19), (9, .int r18), (0, .ref (G.2.2 0)), (1, .int v1), (2, .int v2), (3, .int v3), (4, .int u4), (5, .long u5), (7, .int v7), (8, .int u8)]) X.1 X.2.1 dX9_likeness_83 hl (by decide) rfl (fun ls hl => ?_)
                  refine lv_aload_n X.1 X.2.1 dX9_likeness_85 rfl (lv_at hl 4 rfl) ?_
                  refine lv_iload_n X.1 X.2.1 dX9_likeness_86 rfl (lv_at hl 6 rfl) ?_
                  refine lv_iload_n X.1 X.2.1 dX9_likeness_87 rfl (lv_at hl 7 rfl) ?_
                  refine lv_iload X.1 X.2.1 dX9_likeness_88 (lv_at hl 10 rfl) ?_
                  refine cVI [.int v2, .int v3, .int v7] [] X hw (c_X9_find l G A M v2 v3 v7 (by omega) (by omega)) (cwV 3 X.2.2.2.2 gX9_likeness_X9_find rfl rfl rfl (by decide +kernel) ⟨Nat.le_of_ble_eq_true rfl, Nat.le_of_ble_eq_true rfl⟩) (hw.recv (by decide) hm_MO rfl) rfl rfl hl.1 (Nat.le_of_ble_eq_true rfl) dX9_likeness_90 ?_
                  refine tni (fun r22 er22 => ?_)
                  refine lv_istore (lv' := [(13, .int r22), (12, .int r21), (11, .int r20), (10, .int r19), (9, .int r18), (0, .ref (G.2.2 0)), (1, .int v1), (2, .int v2), (3, .int v3), (4, .int u4), (5, .long u5), (7, .int v7), (8, .int u8)]) X.1 X.2.1 dX9_likeness_93 hl (by decide) rfl (fun ls hl => ?_)
                  refine lv_aload_n X.1 X.2.1 dX9_likeness_95 rfl (lv_at hl 5 rfl) ?_
                  refine lv_iload_n X.1 X.2.1 dX9_likeness_96 rfl (lv_at hl 7 rfl) ?_
                  refine lv_iload_n X.1 X.2.1 dX9_likeness_97 rfl (lv_at hl 8 rfl) ?_
                  refine lv_iload X.1 X.2.1 dX9_likeness_98 (lv_at hl 12 rfl) ?_
                  refine cVI [.int v2, .int v3, .int u8] [] X hw (c_X9_find l G A M v2 v3 u8 (by omega) (by omega)) (cwV 3 X.2.2.2.2 gX9_likeness_X9_find rfl rfl rfl (by decide +kernel) ⟨Nat.le_of_ble_eq_true rfl, Nat.le_of_ble_eq_true rfl⟩) (hw.recv (by decide) hm_MO rfl) rfl rfl hl.1 (Nat.le_of_ble_eq_true rfl) dX9_likeness_100 ?_
                  refine tni (fun r23 er23 => ?_)
                  refine lv_istore (lv' := [(14, .int r23), (13, .int r22), (12, .int r21), (11, .int r20), (10, .int r19), (9, .int r18), (0, .ref (G.2.2 0)), (1, .int v1), (2, .int v2), (3, .int v3), (4, .int u4), (5, .long u5), (7, .int v7), (8, .int u8)]) X.1 X.2.1 dX9_likeness_103 hl (by decide) rfl (fun ls hl => ?_)
                  refine lv_iload X.1 X.2.1 dX9_likeness_105 (lv_at hl 3 rfl) ?_
                  refine lv_iload X.1 X.2.1 dX9_likeness_107 (lv_at hl 5 rfl) ?_
                  refine bi_ge (tgt := 175) X dX9_likeness_109 (by decide) (fun c24 => ?_) (fun c24 => ?_)
                  · skip
                    have t25 : r18.toInt ≤ r20.toInt := i_le c24
                    refine lv_iinc (v := (u8 + 1)) (lv' := [(8, .int (u8 + 1)), (14, .int r23), (13, .int r22), (12, .int r21), (11, .int r20), (10, .int r19), (9, .int r18), (0, .ref (G.2.2 0)), (1, .int v1), (2, .int v2), (3, .int v3), (4, .int u4), (5, .long u5), (7, .int v7)]) X.1 X.2.1 dX9_likeness_175 hl (k := 13) rfl rfl (by decide) rfl (fun ls hl => ?_)
                    refine lv_goto (tgt := 42) X.1 X.2.1 dX9_likeness_178 (by decide) ?_
                    have q26 := inc_sp u8
                    exact ih2 u4 u5 (u8 + 1) (by omega) (by omega) _ _ hw hS ls (lv_sub hl [7, 8, 9, 10, 11, 12, 13, 0] rfl)
                  · skip
                    have t27 : r20.toInt < r18.toInt := i_nle c24
                    refine lv_iload X.1 X.2.1 dX9_likeness_112 (lv_at hl 2 rfl) ?_
                    refine lv_iload X.1 X.2.1 dX9_likeness_114 (lv_at hl 5 rfl) ?_
                    refine bi_ge (tgt := 175) X dX9_likeness_116 (by decide) (fun c28 => ?_) (fun c28 => ?_)
                    · skip
                      have t29 : r18.toInt ≤ r21.toInt := i_le c28
                      refine lv_iinc (v := (u8 + 1)) (lv' := [(8, .int (u8 + 1)), (14, .int r23), (13, .int r22), (12, .int r21), (11, .int r20), (10, .int r19), (9, .int r18), (0, .ref (G.2.2 0)), (1, .int v1), (2, .int v2), (3, .int v3), (4, .int u4), (5, .long u5), (7, .int v7)]) X.1 X.2.1 dX9_likeness_175 hl (k := 13) rfl rfl (by decide) rfl (fun ls hl => ?_)
                      refine lv_goto (tgt := 42) X.1 X.2.1 dX9_likeness_178 (by decide) ?_
                      have q30 := inc_sp u8
                      exact ih2 u4 u5 (u8 + 1) (by omega) (by omega) _ _ hw hS ls (lv_sub hl [7, 8, 9, 10, 11, 12, 13, 0] rfl)
                    · skip
                      have t31 : r21.toInt < r18.toInt := i_nle c28
                      refine lv_iload X.1 X.2.1 dX9_likeness_119 (lv_at hl 1 rfl) ?_
                      refine lv_iload X.1 X.2.1 dX9_likeness_121 (lv_at hl 4 rfl) ?_
                      refine bi_ge (tgt := 175) X dX9_likeness_123 (by decide) (fun c32 => ?_) (fun c32 => ?_)
                      · skip
                        have t33 : r19.toInt ≤ r22.toInt := i_le c32
                        refine lv_iinc (v := (u8 + 1)) (lv' := [(8, .int (u8 + 1)), (14, .int r23), (13, .int r22), (12, .int r21), (11, .int r20), (10, .int r19), (9, .int r18), (0, .ref (G.2.2 0)), (1, .int v1), (2, .int v2), (3, .int v3), (4, .int u4), (5, .long u5), (7, .int v7)]) X.1 X.2.1 dX9_likeness_175 hl (k := 13) rfl rfl (by decide) rfl (fun ls hl => ?_)
                        refine lv_goto (tgt := 42) X.1 X.2.1 dX9_likeness_178 (by decide) ?_
                        have q34 := inc_sp u8
                        exact ih2 u4 u5 (u8 + 1) (by omega) (by omega) _ _ hw hS ls (lv_sub hl [7, 8, 9, 10, 11, 12, 13, 0] rfl)
                      · skip
                        have t35 : r22.toInt < r19.toInt := i_nle c32
                        refine lv_iload X.1 X.2.1 dX9_likeness_126 (lv_at hl 0 rfl) ?_
                        refine lv_iload X.1 X.2.1 dX9_likeness_128 (lv_at hl 4 rfl) ?_
                        refine bi_ge (tgt := 175) X dX9_likeness_130 (by decide) (fun c36 => ?_) (fun c36 => ?_)
                        · skip
                          have t37 : r19.toInt ≤ r23.toInt := i_le c36
                          refine lv_iinc (v := (u8 + 1)) (lv' := [(8, .int (u8 + 1)), (14, .int r23), (13, .int r22), (12, .int r21), (11, .int r20), (10, .int r19), (9, .int r18), (0, .ref (G.2.2 0)), (1, .int v1), (2, .int v2), (3, .int v3), (4, .int u4), (5, .long u5), (7, .int v7)]) X.1 X.2.1 dX9_likeness_175 hl (k := 13) rfl rfl (by decide) rfl (fun ls hl => ?_)
                          refine lv_goto (tgt := 42) X.1 X.2.1 dX9_likeness_178 (by decide) ?_
                          have q38 := inc_sp u8
                          exact ih2 u4 u5 (u8 + 1) (by omega) (by omega) _ _ hw hS ls (lv_sub hl [7, 8, 9, 10, 11, 12, 13, 0] rfl)
                        · skip
                          have t39 : r23.toInt < r19.toInt := i_nle c36
                          refine lv_iinc (v := (u4 + 1)) (lv' := [(4, .int (u4 + 1)), (14, .int r23), (13, .int r22), (12, .int r21), (11, .int r20), (10, .int r19), (9, .int r18), (0, .ref (G.2.2 0)), (1, .int v1), (2, .int v2), (3, .int v3), (5, .long u5), (7, .int v7), (8, .int u8)]) X.1 X.2.1 dX9_likeness_133 hl (k := 10) rfl rfl (by decide) rfl (fun ls hl => ?_)
                          refine lv_lload X.1 X.2.1 dX9_likeness_136 (lv_at hl 11 rfl) ?_
                          refine lv_iload X.1 X.2.1 dX9_likeness_138 (lv_at hl 4 rfl) ?_
                          refine lv_iload X.1 X.2.1 dX9_likeness_140 (lv_at hl 3 rfl) ?_
                          refine bi_ge (tgt := 149) X dX9_likeness_142 (by decide) (fun c40 => ?_) (fun c40 => ?_)
                          · skip
                            have t41 : r21.toInt ≤ r20.toInt := i_le c40
                            refine lv_iconst (v := 0) X.1 X.2.1 dX9_likeness_149 (by decide) ?_
                            refine lv_iload X.1 X.2.1 dX9_likeness_150 (lv_at hl 2 rfl) ?_
                            refine lv_iload X.1 X.2.1 dX9_likeness_152 (lv_at hl 1 rfl) ?_
                            refine bi_ge (tgt := 161) X dX9_likeness_154 (by decide) (fun c42 => ?_) (fun c42 => ?_)
                            · skip
                              have t43 : r23.toInt ≤ r22.toInt := i_le c42
                              refine lv_iconst (v := 0) X.1 X.2.1 dX9_likeness_161 (by decide) ?_
                              refine lv_icmp_ne (tgt := 169) X.1 X.2.1 dX9_likeness_162 (by decide) (fun c44 => absurd c44 (by decide)) (fun _ => ?_)
                              refine lv_lconst (v := 1) X.1 X.2.1 dX9_likeness_165 (by decide) ?_
                              refine lv_goto (tgt := 172) X.1 X.2.1 dX9_likeness_166 (by decide) ?_
                              refine lv_ladd X.1 X.2.1 dX9_likeness_172 ?_
                              refine tnl (fun w45 ew45 => ?_)
                              refine lv_lstore (lv' := [(5, .long w45), (4, .int (u4 + 1)), (14, .int r23), (13, .int r22), (12, .int r21), (11, .int r20), (10, .int r19), (9, .int r18), (0, .ref (G.2.2 0)), (1, .int v1), (2, .int v2), (3, .int v3), (7, .int v7), (8, .int u8)]) X.1 X.2.1 dX9_likeness_173 hl (by decide) rfl (fun ls hl => ?_)
                              refine lv_iinc (v := (u8 + 1)) (lv' := [(8, .int (u8 + 1)), (5, .long w45), (4, .int (u4 + 1)), (14, .int r23), (13, .int r22), (12, .int r21), (11, .int r20), (10, .int r19), (9, .int r18), (0, .ref (G.2.2 0)), (1, .int v1), (2, .int v2), (3, .int v3), (7, .int v7)]) X.1 X.2.1 dX9_likeness_175 hl (k := 13) rfl rfl (by decide) rfl (fun ls hl => ?_)
                              refine lv_goto (tgt := 42) X.1 X.2.1 dX9_likeness_178 (by decide) ?_
                              have q46 := inc_sp u4
                              have q47 := inc_sp u8
                              exact ih2 (u4 + 1) w45 (u8 + 1) (by omega) (by omega) _ _ hw hS ls (lv_sub hl [9, 10, 11, 12, 2, 1, 13, 0] rfl)
                            · skip
                              have t48 : r22.toInt < r23.toInt := i_nle c42
                              refine lv_iconst (v := 1) X.1 X.2.1 dX9_likeness_157 (by decide) ?_
                              refine lv_goto (tgt := 162) X.1 X.2.1 dX9_likeness_158 (by decide) ?_
                              refine lv_icmp_ne (tgt := 169) X.1 X.2.1 dX9_likeness_162 (by decide) (fun _ => ?_) (fun c49 => absurd c49 (by decide))
                              refine lv_ldc2 (v := (-1)) X.1 X.2.1 X.2.2.2.1 (X.2.2.2.2 (.constantLong RX9 139 ((-1))) (by decide +kernel)) dX9_likeness_169 ?_
                              refine lv_ladd X.1 X.2.1 dX9_likeness_172 ?_
                              refine tnl (fun w50 ew50 => ?_)
                              refine lv_lstore (lv' := [(5, .long w50), (4, .int (u4 + 1)), (14, .int r23), (13, .int r22), (12, .int r21), (11, .int r20), (10, .int r19), (9, .int r18), (0, .ref (G.2.2 0)), (1, .int v1), (2, .int v2), (3, .int v3), (7, .int v7), (8, .int u8)]) X.1 X.2.1 dX9_likeness_173 hl (by decide) rfl (fun ls hl => ?_)
                              refine lv_iinc (v := (u8 + 1)) (lv' := [(8, .int (u8 + 1)), (5, .long w50), (4, .int (u4 + 1)), (14, .int r23), (13, .int r22), (12, .int r21), (11, .int r20), (10, .int r19), (9, .int r18), (0, .ref (G.2.2 0)), (1, .int v1), (2, .int v2), (3, .int v3), (7, .int v7)]) X.1 X.2.1 dX9_likeness_175 hl (k := 13) rfl rfl (by decide) rfl (fun ls hl => ?_)
                              refine lv_goto (tgt := 42) X.1 X.2.1 dX9_likeness_178 (by decide) ?_
                              have q51 := inc_sp u4
                              have q52 := inc_sp u8
                              exact ih2 (u4 + 1) w50 (u8 + 1) (by omega) (by omega) _ _ hw hS ls (lv_sub hl [9, 10, 11, 12, 2, 1, 13, 0] rfl)
                          · skip
                            have t53 : r20.toInt < r21.toInt := i_nle c40
                            refine lv_iconst (v := 1) X.1 X.2.1 dX9_likeness_145 (by decide) ?_
                            refine lv_goto (tgt := 150) X.1 X.2.1 dX9_likeness_146 (by decide) ?_
                            refine lv_iload X.1 X.2.1 dX9_likeness_150 (lv_at hl 2 rfl) ?_
                            refine lv_iload X.1 X.2.1 dX9_likeness_152 (lv_at hl 1 rfl) ?_
                            refine bi_ge (tgt := 161) X dX9_likeness_154 (by decide) (fun c54 => ?_) (fun c54 => ?_)
                            · skip
                              have t55 : r23.toInt ≤ r22.toInt := i_le c54
                              refine lv_iconst (v := 0) X.1 X.2.1 dX9_likeness_161 (by decide) ?_
                              refine lv_icmp_ne (tgt := 169) X.1 X.2.1 dX9_likeness_162 (by decide) (fun _ => ?_) (fun c56 => absurd c56 (by decide))
                              refine lv_ldc2 (v := (-1)) X.1 X.2.1 X.2.2.2.1 (X.2.2.2.2 (.constantLong RX9 139 ((-1))) (by decide +kernel)) dX9_likeness_169 ?_
                              refine lv_ladd X.1 X.2.1 dX9_likeness_172 ?_
                              refine tnl (fun w57 ew57 => ?_)
                              refine lv_lstore (lv' := [(5, .long w57), (4, .int (u4 + 1)), (14, .int r23), (13, .int r22), (12, .int r21), (11, .int r20), (10, .int r19), (9, .int r18), (0, .ref (G.2.2 0)), (1, .int v1), (2, .int v2), (3, .int v3), (7, .int v7), (8, .int u8)]) X.1 X.2.1 dX9_likeness_173 hl (by decide) rfl (fun ls hl => ?_)
                              refine lv_iinc (v := (u8 + 1)) (lv' := [(8, .int (u8 + 1)), (5, .long w57), (4, .int (u4 + 1)), (14, .int r23), (13, .int r22), (12, .int r21), (11, .int r20), (10, .int r19), (9, .int r18), (0, .ref (G.2.2 0)), (1, .int v1), (2, .int v2), (3, .int v3), (7, .int v7)]) X.1 X.2.1 dX9_likeness_175 hl (k := 13) rfl rfl (by decide) rfl (fun ls hl => ?_)
                              refine lv_goto (tgt := 42) X.1 X.2.1 dX9_likeness_178 (by decide) ?_
                              have q58 := inc_sp u4
                              have q59 := inc_sp u8
                              exact ih2 (u4 + 1) w57 (u8 + 1) (by omega) (by omega) _ _ hw hS ls (lv_sub hl [9, 10, 11, 12, 2, 1, 13, 0] rfl)
                            · skip
                              have t60 : r22.toInt < r23.toInt := i_nle c54
                              refine lv_iconst (v := 1) X.1 X.2.1 dX9_likeness_157 (by decide) ?_
                              refine lv_goto (tgt := 162) X.1 X.2.1 dX9_likeness_158 (by decide) ?_
                              refine lv_icmp_ne (tgt := 169) X.1 X.2.1 dX9_likeness_162 (by decide) (fun c61 => absurd c61 (by decide)) (fun _ => ?_)
                              refine lv_lconst (v := 1) X.1 X.2.1 dX9_likeness_165 (by decide) ?_
                              refine lv_goto (tgt := 172) X.1 X.2.1 dX9_likeness_166 (by decide) ?_
                              refine lv_ladd X.1 X.2.1 dX9_likeness_172 ?_
                              refine tnl (fun w62 ew62 => ?_)
                              refine lv_lstore (lv' := [(5, .long w62), (4, .int (u4 + 1)), (14, .int r23), (13, .int r22), (12, .int r21), (11, .int r20), (10, .int r19), (9, .int r18), (0, .ref (G.2.2 0)), (1, .int v1), (2, .int v2), (3, .int v3), (7, .int v7), (8, .int u8)]) X.1 X.2.1 dX9_likeness_173 hl (by decide) rfl (fun ls hl => ?_)
                              refine lv_iinc (v := (u8 + 1)) (lv' := [(8, .int (u8 + 1)), (5, .long w62), (4, .int (u4 + 1)), (14, .int r23), (13, .int r22), (12, .int r21), (11, .int r20), (10, .int r19), (9, .int r18), (0, .ref (G.2.2 0)), (1, .int v1), (2, .int v2), (3, .int v3), (7, .int v7)]) X.1 X.2.1 dX9_likeness_175 hl (k := 13) rfl rfl (by decide) rfl (fun ls hl => ?_)
                              refine lv_goto (tgt := 42) X.1 X.2.1 dX9_likeness_178 (by decide) ?_
                              have q63 := inc_sp u4
                              have q64 := inc_sp u8
                              exact ih2 (u4 + 1) w62 (u8 + 1) (by omega) (by omega) _ _ hw hS ls (lv_sub hl [9, 10, 11, 12, 2, 1, 13, 0] rfl)
            refine L2 _ (fun y4 y5 H locs hw hS ls hl => ?_) ((24 - x13.toInt : Int).toNat + 1) v4 v5 x13 (Nat.lt_succ_self _) (by first | omega | decide) _ _ hw hS ls (lv_sub hl [1, 2, 3, 4, 5, 6, 7, 0] rfl)
            refine lv_iinc (v := (v7 + 1)) (lv' := [(7, .int (v7 + 1)), (0, .ref (G.2.2 0)), (1, .int v1), (2, .int v2), (3, .int v3), (4, .int y4), (5, .long y5)]) X.1 X.2.1 dX9_likeness_181 hl (k := 6) rfl rfl (by decide) rfl (fun ls hl => ?_)
            refine lv_goto (tgt := 29) X.1 X.2.1 dX9_likeness_184 (by decide) ?_
            have q65 := inc_sp v7
            exact ih1 v1 v2 v3 y4 y5 (v7 + 1) (by omega) (by omega) (by omega) (by omega) (by omega) _ _ hw hS ls (lv_sub hl [1, 2, 3, 4, 5, 6, 0] rfl)
      exact L1 25 a1 a2 a3 0 0 0 (by decide) (by first | omega | decide) (by first | omega | decide) (by first | omega | decide) (by first | omega | decide) _ _ hw hS ls (lv_sub hl [3, 4, 5, 6, 2, 1, 0] rfl)
    · skip
      have t66 : r5.toInt = 0 := i_eq c6
      refine lv_iconst (v := (-1)) X.1 X.2.1 dX9_likeness_18 (by decide) ?_
      exact rQ X hr hlk hw hS dX9_likeness_19

def f_X9_overlap_53 (K : Int64 → Int32 × Mem) : Nat → Mem → Int32 → Int32 → Int32 → Int32 → Int64 → Int64 → Int32 → Int64 → Int32 → Int32 × Mem
  | 0, M, _, _, _, _, _, _, _, _, _ => (0, M)
  | n2 + 1, M, v1, v2, v3, v4, v5, v7, v9, u10, u12 => bnd (f_X9_first M v1 v3 v9) (fun r17 => if r17 ≤ u12 then (K u10) else (bnd (f_X9_doc M v1 v3 u12) (fun r21 => bnd (f_X9_find M v2 v3 r21) (fun r22 => bnd (f_X9_first M v2 v3 v9) (fun r23 => if r23 ≤ r22 then (bnd (u10 + 0) (fun w26 => f_X9_overlap_53 K n2 M v1 v2 v3 v4 v5 v7 v9 w26 (u12 + 1))) else (bnd (u10 + 1) (fun w29 => f_X9_overlap_53 K n2 M v1 v2 v3 v4 v5 v7 v9 w29 (u12 + 1))))))))
def f_X9_overlap_40 : Nat → Mem → Int32 → Int32 → Int32 → Int32 → Int64 → Int64 → Int32 → Int32 × Mem
  | 0, M, _, _, _, _, _, _, _ => (0, M)
  | n1 + 1, M, v1, v2, v3, v4, v5, v7, v9 => if v4 < v9 then (bnd (f_X9_make M v5 v7) (fun M13 => bnd (f_X9_over M13 v4.toInt64) (fun M14 => bnd (f_X9_show M14) (fun M15 => (1, M15))))) else (f_X9_overlap_53 (fun y10 => bnd (f_X9_make M y10 v9.toInt64) (fun M31 => bnd (f_X9_plus M31 v5 v7) (fun M32 => bnd (M32.2 0 6) (fun w33 => bnd (M32.2 0 7) (fun w34 => f_X9_overlap_40 n1 M32 v1 v2 v3 v4 w33 w34 (v9 + 1)))))) 17 M v1 v2 v3 v4 v5 v7 v9 0 0)
def f_X9_overlap (M : Mem) (a1 : Int32) (a2 : Int32) (a3 : Int32) (a4 : Int32) : Int32 × Mem := bnd (f_X9_isRow M a1 a3) (fun r1 => if r1 = 0 then ((-1), M) else (bnd (f_X9_isRow M a2 a3) (fun r5 => if r5 = 0 then ((-1), M) else (bnd (f_X9_isDeep a4) (fun r8 => if r8 = 0 then ((-2), M) else (f_X9_overlap_40 ((a4.toInt - 1 + 1 : Int).toNat + 1) M a1 a2 a3 a4 0 1 1))))))
set_option maxRecDepth 100000 in
set_option maxHeartbeats 4000000 in
theorem c_X9_overlap (l : Launch) (G : En) (A : Nat → Prop) (M : Mem) (a1 : Int32) (a2 : Int32) (a3 : Int32) (a4 : Int32) : WrI false l yX9_overlap wsX9_overlap ({ frames := 3, cells := 0, slots := 0, locals := 81 }) G A M [.ref (G.2.2 0), .int a1, .int a2, .int a3, .int a4] (f_X9_overlap M a1 a2 a3 a4) := by
  refine WrI.of (cc := cX9_overlap) (maxL := 13) (ret := (some .int)) (own := RX9) (by decide) rfl rfl (Nat.le_of_ble_eq_true rfl) ?_
  intro p e s m below meth c X hw hr hlk ls hl hS
  have hl : lv_has ls 13 [(0, .ref (G.2.2 0)), (1, .int a1), (2, .int a2), (3, .int a3), (4, .int a4)] := hl
  unfold f_X9_overlap
  refine lv_aload_n X.1 X.2.1 dX9_overlap_0 rfl (lv_at hl 0 rfl) ?_
  refine lv_iload_n X.1 X.2.1 dX9_overlap_1 rfl (lv_at hl 1 rfl) ?_
  refine lv_iload_n X.1 X.2.1 dX9_overlap_2 rfl (lv_at hl 3 rfl) ?_
  refine cVI [.int a1, .int a3] [] X hw (c_X9_isRow l G A M a1 a3) (cwV 2 X.2.2.2.2 gX9_overlap_X9_isRow rfl rfl rfl (by decide +kernel) ⟨Nat.le_of_ble_eq_true rfl, Nat.le_of_ble_eq_true rfl⟩) (hw.recv (by decide) hm_MO rfl) rfl rfl hl.1 (Nat.le_of_ble_eq_true rfl) dX9_overlap_3 ?_
  refine tni (fun r1 er1 => ?_)
  have zr1 := row_or er1
  refine bz_eq (tgt := 18) X dX9_overlap_6 (by decide) (fun c2 => ?_) (fun c2 => ?_)
  · skip
    have t3 : r1.toInt = 0 := i_eq c2
    refine lv_iconst (v := (-1)) X.1 X.2.1 dX9_overlap_18 (by decide) ?_
    exact rQ X hr hlk hw hS dX9_overlap_19
  · skip
    have t4 : ¬ r1.toInt = 0 := i_ne c2
    refine lv_aload_n X.1 X.2.1 dX9_overlap_9 rfl (lv_at hl 0 rfl) ?_
    refine lv_iload_n X.1 X.2.1 dX9_overlap_10 rfl (lv_at hl 2 rfl) ?_
    refine lv_iload_n X.1 X.2.1 dX9_overlap_11 rfl (lv_at hl 3 rfl) ?_
    refine cVI [.int a2, .int a3] [] X hw (c_X9_isRow l G A M a2 a3) (cwV 2 X.2.2.2.2 gX9_overlap_X9_isRow rfl rfl rfl (by decide +kernel) ⟨Nat.le_of_ble_eq_true rfl, Nat.le_of_ble_eq_true rfl⟩) (hw.recv (by decide) hm_MO rfl) rfl rfl hl.1 (Nat.le_of_ble_eq_true rfl) dX9_overlap_12 ?_
    refine tni (fun r5 er5 => ?_)
    have zr5 := row_or er5
    refine bz_ne (tgt := 20) X dX9_overlap_15 (by decide) (fun c6 => ?_) (fun c6 => ?_)
    · skip
      have t7 : ¬ r5.toInt = 0 := i_ne c6
      refine lv_iload X.1 X.2.1 dX9_overlap_20 (lv_at hl 4 rfl) ?_
      refine cSI [.int a4] [] X hw (c_X9_isDeep l G A M a4) (va_cwS 1 X.2.2.2.2 gX9_overlap_X9_isDeep rfl rfl rfl (by decide +kernel) ⟨Nat.le_of_ble_eq_true rfl, Nat.le_of_ble_eq_true rfl⟩)  rfl rfl hl.1 (Nat.le_of_ble_eq_true rfl) dX9_overlap_22 ?_
      refine tni (fun r8 er8 => ?_)
      have zr8 := deep_or er8
      refine bz_ne (tgt := 31) X dX9_overlap_25 (by decide) (fun c9 => ?_) (fun c9 => ?_)
      · skip
        have t10 : ¬ r8.toInt = 0 := i_ne c9
        refine lv_lconst (v := 0) X.1 X.2.1 dX9_overlap_31 (by decide) ?_
        refine lv_lstore (lv' := [(5, .long 0), (0, .ref (G.2.2 0)), (1, .int a1), (2, .int a2), (3, .int a3), (4, .int a4)]) X.1 X.2.1 dX9_overlap_32 hl (by decide) rfl (fun ls hl => ?_)
        refine lv_lconst (v := 1) X.1 X.2.1 dX9_overlap_34 (by decide) ?_
        refine lv_lstore (lv' := [(7, .long 1), (5, .long 0), (0, .ref (G.2.2 0)), (1, .int a1), (2, .int a2), (3, .int a3), (4, .int a4)]) X.1 X.2.1 dX9_overlap_35 hl (by decide) rfl (fun ls hl => ?_)
        refine lv_iconst (v := 1) X.1 X.2.1 dX9_overlap_37 (by decide) ?_
        refine lv_istore (lv' := [(9, .int 1), (7, .long 1), (5, .long 0), (0, .ref (G.2.2 0)), (1, .int a1), (2, .int a2), (3, .int a3), (4, .int a4)]) X.1 X.2.1 dX9_overlap_38 hl (by decide) rfl (fun ls hl => ?_)
        have L1 : ∀ (n1 : Nat) (M : Mem) (v1 : Int32) (v2 : Int32) (v3 : Int32) (v4 : Int32) (v5 : Int64) (v7 : Int64) (v9 : Int32)  (hm1 : (v4.toInt - v9.toInt + 1 : Int).toNat < n1) (hi1_0 : 1 ≤ v9.toInt) (hi1_1 : v4.toInt ≤ 16) (hi1_2 : 0 ≤ v1.toInt ∧ v1.toInt < 4) (hi1_3 : 0 ≤ v2.toInt ∧ v2.toInt < 4) (hi1_4 : 0 ≤ v3.toInt ∧ v3.toInt < 8) (hi1_5 : ¬ v7 = 0), ∀ (H : Heap) (locs : List Loc), WD false G A M s H → va_S A s.heap H locs → ∀ ls : Array Slot, lv_has ls 13 [(0, .ref (G.2.2 0)), (1, .int v1), (2, .int v2), (3, .int v3), (4, .int v4), (5, .long v5), (7, .long v7), (9, .int v9)] → W p l e ({ frames := 3, cells := 0, slots := 0, locals := 81 } : Room) s m ([.ref (G.2.2 0), .int a1, .int a2, .int a3, .int a4] : List Value).toArray below meth c H locs 0 0 (TQi false G A below ([.ref (G.2.2 0), .int a1, .int a2, .int a3, .int a4] : List Value).toArray s (f_X9_overlap_40 n1 M v1 v2 v3 v4 v5 v7 v9)) (F0 m 40 ls []) := by
          intro n1
          induction n1 with
          | zero => intro M v1 v2 v3 v4 v5 v7 v9 hm1 hi1_0 hi1_1 hi1_2 hi1_3 hi1_4 hi1_5; exact absurd hm1 (by omega)
          | succ n1 ih1 =>
            intro M v1 v2 v3 v4 v5 v7 v9 hm1 hi1_0 hi1_1 hi1_2 hi1_3 hi1_4 hi1_5 H locs hw hS ls hl
            rw [f_X9_overlap_40]
            refine lv_iload X.1 X.2.1 dX9_overlap_40 (lv_at hl 7 rfl) ?_
            refine lv_iload X.1 X.2.1 dX9_overlap_42 (lv_at hl 4 rfl) ?_
            refine bi_gt (tgt := 142) X dX9_overlap_44 (by decide) (fun c11 => ?_) (fun c11 => ?_)
            · skip
              have t12 : v4.toInt < v9.toInt := i_lt c11
              refine lv_aload_n X.1 X.2.1 dX9_overlap_142 rfl (lv_at hl 0 rfl) ?_
              refine lv_lload X.1 X.2.1 dX9_overlap_143 (lv_at hl 5 rfl) ?_
              refine lv_lload X.1 X.2.1 dX9_overlap_145 (lv_at hl 6 rfl) ?_
              refine cVW [.long v5, .long v7] [] X hw hS (c_X9_make l G A M v5 v7) (cwV 2 X.2.2.2.2 gX9_overlap_X9_make rfl rfl rfl (by decide +kernel) ⟨Nat.le_of_ble_eq_true rfl, Nat.le_of_ble_eq_true rfl⟩) (hw.recv (by decide) hm_MO rfl) rfl rfl hl.1 (Nat.le_of_ble_eq_true rfl) dX9_overlap_147 (fun H locs hw hS => ?_)
              refine tpb (fun M13 eM13 => ?_)
              rw [← eM13] at hw
              refine lv_aload_n X.1 X.2.1 dX9_overlap_150 rfl (lv_at hl 0 rfl) ?_
              refine lv_iload X.1 X.2.1 dX9_overlap_151 (lv_at hl 4 rfl) ?_
              refine lv_i2l (v := v4.toInt64) X.1 X.2.1 dX9_overlap_153 rfl ?_
              refine cVW [.long v4.toInt64] [] X hw hS (c_X9_over l G A M13 v4.toInt64) (cwV 1 X.2.2.2.2 gX9_overlap_X9_over rfl rfl rfl (by decide +kernel) ⟨Nat.le_of_ble_eq_true rfl, Nat.le_of_ble_eq_true rfl⟩) (hw.recv (by decide) hm_MO rfl) rfl rfl hl.1 (Nat.le_of_ble_eq_true rfl) dX9_overlap_154 (fun H locs hw hS => ?_)
              refine tpb (fun M14 eM14 => ?_)
              rw [← eM14] at hw
              refine lv_aload_n X.1 X.2.1 dX9_overlap_157 rfl (lv_at hl 0 rfl) ?_
              refine cVW [] [] X hw hS (c_X9_show l G A M14 ) (cwV 0 X.2.2.2.2 gX9_overlap_X9_show rfl rfl rfl (by decide +kernel) ⟨Nat.le_of_ble_eq_true rfl, Nat.le_of_ble_eq_true rfl⟩) (hw.recv (by decide) hm_MO rfl) rfl rfl hl.1 (Nat.le_of_ble_eq_true rfl) dX9_overlap_158 (fun H locs hw hS => ?_)
              refine tpb (fun M15 eM15 => ?_)
              rw [← eM15] at hw
              refine lv_iconst (v := 1) X.1 X.2.1 dX9_overlap_161 (by decide) ?_
              exact rQ X hr hlk hw hS dX9_overlap_162
            · skip
              have t16 : v9.toInt ≤ v4.toInt := i_nlt c11
              refine lv_lconst (v := 0) X.1 X.2.1 dX9_overlap_47 (by decide) ?_
              refine lv_lstore (lv' := [(10, .long 0), (0, .ref (G.2.2 0)), (1, .int v1), (2, .int v2), (3, .int v3), (4, .int v4), (5, .long v5), (7, .long v7), (9, .int v9)]) X.1 X.2.1 dX9_overlap_48 hl (by decide) rfl (fun ls hl => ?_)
              refine lv_iconst (v := 0) X.1 X.2.1 dX9_overlap_50 (by decide) ?_
              refine lv_istore (lv' := [(12, .int 0), (10, .long 0), (0, .ref (G.2.2 0)), (1, .int v1), (2, .int v2), (3, .int v3), (4, .int v4), (5, .long v5), (7, .long v7), (9, .int v9)]) X.1 X.2.1 dX9_overlap_51 hl (by decide) rfl (fun ls hl => ?_)
              have L2 : ∀ (K : Int64 → Int32 × Mem) (hK2 : ∀ (y10 : Int64) , ∀ (H : Heap) (locs : List Loc), WD false G A M s H → va_S A s.heap H locs → ∀ ls : Array Slot, lv_has ls 13 [(0, .ref (G.2.2 0)), (1, .int v1), (2, .int v2), (3, .int v3), (4, .int v4), (5, .long v5), (7, .long v7), (9, .int v9), (10, .long y10)] → W p l e ({ frames := 3, cells := 0, slots := 0, locals := 81 } : Room) s m ([.ref (G.2.2 0), .int a1, .int a2, .int a3, .int a4] : List Value).toArray below meth c H locs 0 0 (TQi false G A below ([.ref (G.2.2 0), .int a1, .int a2, .int a3, .int a4] : List Value).toArray s (K y10)) (F0 m 107 ls [])) (n2 : Nat) (u10 : Int64) (u12 : Int32) (hm2 : (16 - u12.toInt : Int).toNat < n2) (hi2_0 : 0 ≤ u12.toInt), ∀ (H : Heap) (locs : List Loc), WD false G A M s H → va_S A s.heap H locs → ∀ ls : Array Slot, lv_has ls 13 [(0, .ref (G.2.2 0)), (1, .int v1), (2, .int v2), (3, .int v3), (4, .int v4), (5, .long v5), (7, .long v7), (9, .int v9), (10, .long u10), (12, .int u12)] → W p l e ({ frames := 3, cells := 0, slots := 0, locals := 81 } : Room) s m ([.ref (G.2.2 0), .int a1, .int a2, .int a3, .int a4] : List Value).toArray below meth c H locs 0 0 (TQi false G A below ([.ref (G.2.2 0), .int a1, .int a2, .int a3, .int a4] : List Value).toArray s (f_X9_overlap_53 K n2 M v1 v2 v3 v4 v5 v7 v9 u10 u12)) (F0 m 53 ls []) := by
                intro K hK2 n2
                induction n2 with
                | zero => intro u10 u12 hm2 hi2_0; exact absurd hm2 (by omega)
                | succ n2 ih2 =>
                  intro u10 u12 hm2 hi2_0 H locs hw hS ls hl
                  rw [f_X9_overlap_53]
                  refine lv_iload X.1 X.2.1 dX9_overlap_53 (lv_at hl 9 rfl) ?_
                  refine lv_aload_n X.1 X.2.1 dX9_overlap_55 rfl (lv_at hl 0 rfl) ?_
                  refine lv_iload_n X.1 X.2.1 dX9_overlap_56 rfl (lv_at hl 1 rfl) ?_
                  refine lv_iload_n X.1 X.2.1 dX9_overlap_57 rfl (lv_at hl 3 rfl) ?_
                  refine lv_iload X.1 X.2.1 dX9_overlap_58 (lv_at hl 7 rfl) ?_
                  refine cVI [.int v1, .int v3, .int v9] [.int u12] X hw (c_X9_first l G A M v1 v3 v9 (by omega) (by omega)) (cwV 3 X.2.2.2.2 gX9_overlap_X9_first rfl rfl rfl (by decide +kernel) ⟨Nat.le_of_ble_eq_true rfl, Nat.le_of_ble_eq_true rfl⟩) (hw.recv (by decide) hm_MO rfl) rfl rfl hl.1 (Nat.le_of_ble_eq_true rfl) dX9_overlap_60 ?_
                  refine tni (fun r17 er17 => ?_)
                  have zr17 := g_X9_first hw.2.2.2.2 er17 (by omega) (by omega)
                  refine bi_ge (tgt := 107) X dX9_overlap_63 (by decide) (fun c18 => ?_) (fun c18 => ?_)
                  · skip
                    have t19 : r17.toInt ≤ u12.toInt := i_le c18
                    exact hK2 u10 _ _ hw hS ls (lv_sub hl [0, 1, 2, 3, 4, 5, 6, 7, 8] rfl)
                  · skip
                    have t20 : u12.toInt < r17.toInt := i_nle c18
                    refine lv_lload X.1 X.2.1 dX9_overlap_66 (lv_at hl 8 rfl) ?_
                    refine lv_aload_n X.1 X.2.1 dX9_overlap_68 rfl (lv_at hl 0 rfl) ?_
                    refine lv_iload_n X.1 X.2.1 dX9_overlap_69 rfl (lv_at hl 2 rfl) ?_
                    refine lv_iload_n X.1 X.2.1 dX9_overlap_70 rfl (lv_at hl 3 rfl) ?_
                    refine lv_aload_n X.1 X.2.1 dX9_overlap_71 rfl (lv_at hl 0 rfl) ?_
                    refine lv_iload_n X.1 X.2.1 dX9_overlap_72 rfl (lv_at hl 1 rfl) ?_
                    refine lv_iload_n X.1 X.2.1 dX9_overlap_73 rfl (lv_at hl 3 rfl) ?_
                    refine lv_iload X.1 X.2.1 dX9_overlap_74 (lv_at hl 9 rfl) ?_
                    refine cVI [.int v1, .int v3, .int u12] [.int v3, .int v2, .ref (G.2.2 0), .long u10] X hw (c_X9_doc l G A M v1 v3 u12 (by omega) (by omega) (by omega)) (cwV 3 X.2.2.2.2 gX9_overlap_X9_doc rfl rfl rfl (by decide +kernel) ⟨Nat.le_of_ble_eq_true rfl, Nat.le_of_ble_eq_true rfl⟩) (hw.recv (by decide) hm_MO rfl) rfl rfl hl.1 (Nat.le_of_ble_eq_true rfl) dX9_overlap_76 ?_
                    refine tni (fun r21 er21 => ?_)
                    have zr21 := g_X9_doc hw.2.2.2.2 er21 (by omega) (by omega) (by omega)
                    refine cVI [.int v2, .int v3, .int r21] [.long u10] X hw (c_X9_find l G A M v2 v3 r21 (by omega) (by omega)) (cwV 3 X.2.2.2.2 gX9_overlap_X9_find rfl rfl rfl (by decide +kernel) ⟨Nat.le_of_ble_eq_true rfl, Nat.le_of_ble_eq_true rfl⟩) (hw.recv (by decide) hm_MO rfl) rfl rfl hl.1 (Nat.le_of_ble_eq_true rfl) dX9_overlap_79 ?_
                    refine tni (fun r22 er22 => ?_)
                    refine lv_aload_n X.1 X.2.1 dX9_overlap_82 rfl (lv_at hl 0 rfl) ?_
                    refine lv_iload_n X.1 X.2.1 dX9_overlap_83 rfl (lv_at hl 2 rfl) ?_
                    refine lv_iload_n X.1 X.2.1 dX9_overlap_84 rfl (lv_at hl 3 rfl) ?_
                    refine lv_iload X.1 X.2.1 dX9_overlap_85 (lv_at hl 7 rfl) ?_
                    refine cVI [.int v2, .int v3, .int v9] [.int r22, .long u10] X hw (c_X9_first l G A M v2 v3 v9 (by omega) (by omega)) (cwV 3 X.2.2.2.2 gX9_overlap_X9_first rfl rfl rfl (by decide +kernel) ⟨Nat.le_of_ble_eq_true rfl, Nat.le_of_ble_eq_true rfl⟩) (hw.recv (by decide) hm_MO rfl) rfl rfl hl.1 (Nat.le_of_ble_eq_true rfl) dX9_overlap_87 ?_
                    refine tni (fun r23 er23 => ?_)
                    have zr23 := g_X9_first hw.2.2.2.2 er23 (by omega) (by omega)
                    refine bi_ge (tgt := 97) X dX9_overlap_90 (by decide) (fun c24 => ?_) (fun c24 => ?_)
                    · skip
                      have t25 : r23.toInt ≤ r22.toInt := i_le c24
                      refine lv_lconst (v := 0) X.1 X.2.1 dX9_overlap_97 (by decide) ?_
                      refine lv_ladd X.1 X.2.1 dX9_overlap_98 ?_
                      refine tnl (fun w26 ew26 => ?_)
                      refine lv_lstore (lv' := [(10, .long w26), (0, .ref (G.2.2 0)), (1, .int v1), (2, .int v2), (3, .int v3), (4, .int v4), (5, .long v5), (7, .long v7), (9, .int v9), (12, .int u12)]) X.1 X.2.1 dX9_overlap_99 hl (by decide) rfl (fun ls hl => ?_)
                      refine lv_iinc (v := (u12 + 1)) (lv' := [(12, .int (u12 + 1)), (10, .long w26), (0, .ref (G.2.2 0)), (1, .int v1), (2, .int v2), (3, .int v3), (4, .int v4), (5, .long v5), (7, .long v7), (9, .int v9)]) X.1 X.2.1 dX9_overlap_101 hl (k := 9) rfl rfl (by decide) rfl (fun ls hl => ?_)
                      refine lv_goto (tgt := 53) X.1 X.2.1 dX9_overlap_104 (by decide) ?_
                      have q27 := inc_sp u12
                      exact ih2 w26 (u12 + 1) (by omega) (by omega) _ _ hw hS ls (lv_sub hl [2, 3, 4, 5, 6, 7, 8, 9, 1, 0] rfl)
                    · skip
                      have t28 : r22.toInt < r23.toInt := i_nle c24
                      refine lv_lconst (v := 1) X.1 X.2.1 dX9_overlap_93 (by decide) ?_
                      refine lv_goto (tgt := 98) X.1 X.2.1 dX9_overlap_94 (by decide) ?_
                      refine lv_ladd X.1 X.2.1 dX9_overlap_98 ?_
                      refine tnl (fun w29 ew29 => ?_)
                      refine lv_lstore (lv' := [(10, .long w29), (0, .ref (G.2.2 0)), (1, .int v1), (2, .int v2), (3, .int v3), (4, .int v4), (5, .long v5), (7, .long v7), (9, .int v9), (12, .int u12)]) X.1 X.2.1 dX9_overlap_99 hl (by decide) rfl (fun ls hl => ?_)
                      refine lv_iinc (v := (u12 + 1)) (lv' := [(12, .int (u12 + 1)), (10, .long w29), (0, .ref (G.2.2 0)), (1, .int v1), (2, .int v2), (3, .int v3), (4, .int v4), (5, .long v5), (7, .long v7), (9, .int v9)]) X.1 X.2.1 dX9_overlap_101 hl (k := 9) rfl rfl (by decide) rfl (fun ls hl => ?_)
                      refine lv_goto (tgt := 53) X.1 X.2.1 dX9_overlap_104 (by decide) ?_
                      have q30 := inc_sp u12
                      exact ih2 w29 (u12 + 1) (by omega) (by omega) _ _ hw hS ls (lv_sub hl [2, 3, 4, 5, 6, 7, 8, 9, 1, 0] rfl)
              refine L2 _ (fun y10 H locs hw hS ls hl => ?_) 17 0 0 (by decide) (by first | omega | decide) _ _ hw hS ls (lv_sub hl [2, 3, 4, 5, 6, 7, 8, 9, 1, 0] rfl)
              refine lv_aload_n X.1 X.2.1 dX9_overlap_107 rfl (lv_at hl 0 rfl) ?_
              refine lv_lload X.1 X.2.1 dX9_overlap_108 (lv_at hl 8 rfl) ?_
              refine lv_iload X.1 X.2.1 dX9_overlap_110 (lv_at hl 7 rfl) ?_
              refine lv_i2l (v := v9.toInt64) X.1 X.2.1 dX9_overlap_112 rfl ?_
              refine cVW [.long y10, .long v9.toInt64] [] X hw hS (c_X9_make l G A M y10 v9.toInt64) (cwV 2 X.2.2.2.2 gX9_overlap_X9_make rfl rfl rfl (by decide +kernel) ⟨Nat.le_of_ble_eq_true rfl, Nat.le_of_ble_eq_true rfl⟩) (hw.recv (by decide) hm_MO rfl) rfl rfl hl.1 (Nat.le_of_ble_eq_true rfl) dX9_overlap_113 (fun H locs hw hS => ?_)
              refine tpb (fun M31 eM31 => ?_)
              rw [← eM31] at hw
              refine lv_aload_n X.1 X.2.1 dX9_overlap_116 rfl (lv_at hl 0 rfl) ?_
              refine lv_lload X.1 X.2.1 dX9_overlap_117 (lv_at hl 5 rfl) ?_
              refine lv_lload X.1 X.2.1 dX9_overlap_119 (lv_at hl 6 rfl) ?_
              refine cVW [.long v5, .long v7] [] X hw hS (c_X9_plus l G A M31 v5 v7 (by assumption)) (cwV 2 X.2.2.2.2 gX9_overlap_X9_plus rfl rfl rfl (by decide +kernel) ⟨Nat.le_of_ble_eq_true rfl, Nat.le_of_ble_eq_true rfl⟩) (hw.recv (by decide) hm_MO rfl) rfl rfl hl.1 (Nat.le_of_ble_eq_true rfl) dX9_overlap_121 (fun H locs hw hS => ?_)
              refine tpb (fun M32 eM32 => ?_)
              rw [← eM32] at hw
              refine lv_aload_n X.1 X.2.1 dX9_overlap_124 rfl (lv_at hl 0 rfl) ?_
              refine gF X hw (by decide) hm_MO rfl (by decide +kernel) 6 (by decide) (ref := "RankBenchModel") rfl (by decide +kernel) rfl dX9_overlap_125 ?_
              refine tnl (fun w33 ew33 => ?_)
              refine lv_lstore (lv' := [(5, .long w33), (0, .ref (G.2.2 0)), (1, .int v1), (2, .int v2), (3, .int v3), (4, .int v4), (7, .long v7), (9, .int v9), (10, .long y10)]) X.1 X.2.1 dX9_overlap_128 hl (by decide) rfl (fun ls hl => ?_)
              refine lv_aload_n X.1 X.2.1 dX9_overlap_130 rfl (lv_at hl 1 rfl) ?_
              refine gF X hw (by decide) hm_MO rfl (by decide +kernel) 7 (by decide) (ref := "RankBenchModel") rfl (by decide +kernel) rfl dX9_overlap_131 ?_
              refine tnl (fun w34 ew34 => ?_)
              refine lv_lstore (lv' := [(7, .long w34), (5, .long w33), (0, .ref (G.2.2 0)), (1, .int v1), (2, .int v2), (3, .int v3), (4, .int v4), (9, .int v9), (10, .long y10)]) X.1 X.2.1 dX9_overlap_134 hl (by decide) rfl (fun ls hl => ?_)
              refine lv_iinc (v := (v9 + 1)) (lv' := [(9, .int (v9 + 1)), (7, .long w34), (5, .long w33), (0, .ref (G.2.2 0)), (1, .int v1), (2, .int v2), (3, .int v3), (4, .int v4), (10, .long y10)]) X.1 X.2.1 dX9_overlap_136 hl (k := 7) rfl rfl (by decide) rfl (fun ls hl => ?_)
              refine lv_goto (tgt := 40) X.1 X.2.1 dX9_overlap_139 (by decide) ?_
              have q35 := inc_sp v9
              exact ih1 M32 v1 v2 v3 v4 w33 w34 (v9 + 1) (by omega) (by omega) (by omega) (by omega) (by omega) (by omega) (by first | assumption | exact ne_of ew34 (okM_nz hw.2.2.2.2)) _ _ hw hS ls (lv_sub hl [3, 4, 5, 6, 7, 2, 1, 0] rfl)
        exact L1 ((a4.toInt - 1 + 1 : Int).toNat + 1) M a1 a2 a3 a4 0 1 1 (Nat.lt_succ_self _) (by first | omega | decide) (by first | omega | decide) (by first | omega | decide) (by first | omega | decide) (by first | omega | decide) (by decide) _ _ hw hS ls (lv_sub hl [3, 4, 5, 6, 7, 2, 1, 0] rfl)
      · skip
        have t36 : r8.toInt = 0 := i_eq c9
        refine lv_bipush (v := (-2)) X.1 X.2.1 dX9_overlap_28 (by decide) ?_
        exact rQ X hr hlk hw hS dX9_overlap_30
    · skip
      have t37 : r5.toInt = 0 := i_eq c6
      refine lv_iconst (v := (-1)) X.1 X.2.1 dX9_overlap_18 (by decide) ?_
      exact rQ X hr hlk hw hS dX9_overlap_19

def f_X9_pool_42 (K : Int32 → Int32) : Nat → Mem → Int32 → Int32 → Int32 → Int32 → Int32 → Int32 → Int32 → Int32
  | 0, M, _, _, _, _, _, _, _ => 0
  | n2 + 1, M, v1, v2, v3, v4, v5, u6, u7 => if (4 : Int32) ≤ u7 then (K u6) else (if u6 = 0 then (if (M.1 4 ((8 * u7) + v1).toNatClampNeg) = 0 then (f_X9_pool_42 K n2 M v1 v2 v3 v4 v5 0 (u7 + 1)) else (bnd (f_X9_find M u7 v1 v5) (fun r24 => bnd (f_X9_first M u7 v1 v2) (fun r25 => if r25 ≤ r24 then (f_X9_pool_42 K n2 M v1 v2 v3 v4 v5 0 (u7 + 1)) else (f_X9_pool_42 K n2 M v1 v2 v3 v4 v5 1 (u7 + 1)))))) else (f_X9_pool_42 K n2 M v1 v2 v3 v4 v5 1 (u7 + 1)))
def f_X9_pool_25 : Nat → Mem → Int32 → Int32 → Int32 → Int32 → Int32 → Int32
  | 0, M, _, _, _, _, _ => 0
  | n1 + 1, M, v1, v2, v3, v4, v5 => if (24 : Int32) ≤ v5 then (-3) else (if v3 < 0 then (-3) else (f_X9_pool_42 (fun y6 => if y6 = 0 then (f_X9_pool_25 n1 M v1 v2 v3 v4 (v5 + 1)) else (bnd (f_X9_gradeOf M v1 v5) (fun r35 => if (0 : Int32) ≤ r35 then (f_X9_pool_25 n1 M v1 v2 v3 v4 (v5 + 1)) else (if v4 = 0 then v5 else (f_X9_pool_25 n1 M v1 v2 v3 (v4 + (-1)) (v5 + 1)))))) 5 M v1 v2 v3 v4 v5 0 0))
def f_X9_pool (M : Mem) (a1 : Int32) (a2 : Int32) (a3 : Int32) : Int32 := bnd (f_X9_isQuestion a1) (fun r1 => if r1 = 0 then (-1) else (bnd (f_X9_isDeep a2) (fun r4 => if r4 = 0 then (-2) else (f_X9_pool_25 25 M a1 a2 a3 a3 0))))
set_option maxRecDepth 100000 in
set_option maxHeartbeats 4000000 in
theorem c_X9_pool (l : Launch) (G : En) (A : Nat → Prop) (M : Mem) (a1 : Int32) (a2 : Int32) (a3 : Int32) : RdI false l yX9_pool wsX9_pool ({ frames := 2, cells := 0, slots := 0, locals := 47 }) G A M [.ref (G.2.2 0), .int a1, .int a2, .int a3] (f_X9_pool M a1 a2 a3) := by
  refine RdI.of (cc := cX9_pool) (maxL := 8) (ret := (some .int)) (own := RX9) (by decide) rfl rfl (Nat.le_of_ble_eq_true rfl) ?_
  intro p e s m below meth c X hw hr hlk ls hl
  have hl : lv_has ls 8 [(0, .ref (G.2.2 0)), (1, .int a1), (2, .int a2), (3, .int a3)] := hl
  unfold f_X9_pool
  refine lv_iload_n X.1 X.2.1 dX9_pool_0 rfl (lv_at hl 1 rfl) ?_
  refine cSI [.int a1] [] X hw (c_X9_isQuestion l G A M a1) (va_cwS 1 X.2.2.2.2 gX9_pool_X9_isQuestion rfl rfl rfl (by decide +kernel) ⟨Nat.le_of_ble_eq_true rfl, Nat.le_of_ble_eq_true rfl⟩)  rfl rfl hl.1 (Nat.le_of_ble_eq_true rfl) dX9_pool_1 ?_
  refine tni (fun r1 er1 => ?_)
  have zr1 := q_or er1
  refine bz_ne (tgt := 9) X dX9_pool_4 (by decide) (fun c2 => ?_) (fun c2 => ?_)
  · skip
    have t3 : ¬ r1.toInt = 0 := i_ne c2
    refine lv_iload_n X.1 X.2.1 dX9_pool_9 rfl (lv_at hl 2 rfl) ?_
    refine cSI [.int a2] [] X hw (c_X9_isDeep l G A M a2) (va_cwS 1 X.2.2.2.2 gX9_pool_X9_isDeep rfl rfl rfl (by decide +kernel) ⟨Nat.le_of_ble_eq_true rfl, Nat.le_of_ble_eq_true rfl⟩)  rfl rfl hl.1 (Nat.le_of_ble_eq_true rfl) dX9_pool_10 ?_
    refine tni (fun r4 er4 => ?_)
    have zr4 := deep_or er4
    refine bz_ne (tgt := 19) X dX9_pool_13 (by decide) (fun c5 => ?_) (fun c5 => ?_)
    · skip
      have t6 : ¬ r4.toInt = 0 := i_ne c5
      refine lv_iload_n X.1 X.2.1 dX9_pool_19 rfl (lv_at hl 3 rfl) ?_
      refine lv_istore (lv' := [(4, .int a3), (0, .ref (G.2.2 0)), (1, .int a1), (2, .int a2), (3, .int a3)]) X.1 X.2.1 dX9_pool_20 hl (by decide) rfl (fun ls hl => ?_)
      refine lv_iconst (v := 0) X.1 X.2.1 dX9_pool_22 (by decide) ?_
      refine lv_istore (lv' := [(5, .int 0), (4, .int a3), (0, .ref (G.2.2 0)), (1, .int a1), (2, .int a2), (3, .int a3)]) X.1 X.2.1 dX9_pool_23 hl (by decide) rfl (fun ls hl => ?_)
      have L1 : ∀ (n1 : Nat) (v1 : Int32) (v2 : Int32) (v3 : Int32) (v4 : Int32) (v5 : Int32)  (hm1 : (24 - v5.toInt : Int).toNat < n1) (hi1_0 : 0 ≤ v5.toInt) (hi1_1 : 0 ≤ v1.toInt ∧ v1.toInt < 8), ∀ ls : Array Slot, lv_has ls 8 [(0, .ref (G.2.2 0)), (1, .int v1), (2, .int v2), (3, .int v3), (4, .int v4), (5, .int v5)] → W p l e ({ frames := 2, cells := 0, slots := 0, locals := 47 } : Room) s m ([.ref (G.2.2 0), .int a1, .int a2, .int a3] : List Value).toArray below meth c s.heap [] 0 0 (TSi below ([.ref (G.2.2 0), .int a1, .int a2, .int a3] : List Value).toArray s (f_X9_pool_25 n1 M v1 v2 v3 v4 v5)) (F0 m 25 ls []) := by
        intro n1
        induction n1 with
        | zero => intro v1 v2 v3 v4 v5 hm1 hi1_0 hi1_1; exact absurd hm1 (by omega)
        | succ n1 ih1 =>
          intro v1 v2 v3 v4 v5 hm1 hi1_0 hi1_1 ls hl
          rw [f_X9_pool_25]
          refine lv_iload X.1 X.2.1 dX9_pool_25 (lv_at hl 5 rfl) ?_
          refine lv_bipush (v := 24) X.1 X.2.1 dX9_pool_27 (by decide) ?_
          refine bi_ge (tgt := 133) X dX9_pool_29 (by decide) (fun c7 => ?_) (fun c7 => ?_)
          · skip
            have t8 : 24 ≤ v5.toInt := i_le c7
            refine lv_bipush (v := (-3)) X.1 X.2.1 dX9_pool_133 (by decide) ?_
            exact rI X hr hlk dX9_pool_135
          · skip
            have t9 : v5.toInt < 24 := i_nle c7
            refine lv_iload_n X.1 X.2.1 dX9_pool_32 rfl (lv_at hl 3 rfl) ?_
            refine bz_lt (tgt := 133) X dX9_pool_33 (by decide) (fun c10 => ?_) (fun c10 => ?_)
            · skip
              have t11 : v3.toInt < 0 := i_lt c10
              refine lv_bipush (v := (-3)) X.1 X.2.1 dX9_pool_133 (by decide) ?_
              exact rI X hr hlk dX9_pool_135
            · skip
              have t12 : 0 ≤ v3.toInt := i_nlt c10
              refine lv_iconst (v := 0) X.1 X.2.1 dX9_pool_36 (by decide) ?_
              refine lv_istore (lv' := [(6, .int 0), (0, .ref (G.2.2 0)), (1, .int v1), (2, .int v2), (3, .int v3), (4, .int v4), (5, .int v5)]) X.1 X.2.1 dX9_pool_37 hl (by decide) rfl (fun ls hl => ?_)
              refine lv_iconst (v := 0) X.1 X.2.1 dX9_pool_39 (by decide) ?_
              refine lv_istore (lv' := [(7, .int 0), (6, .int 0), (0, .ref (G.2.2 0)), (1, .int v1), (2, .int v2), (3, .int v3), (4, .int v4), (5, .int v5)]) X.1 X.2.1 dX9_pool_40 hl (by decide) rfl (fun ls hl => ?_)
              have L2 : ∀ (K : Int32 → Int32) (hK2 : ∀ (y6 : Int32) , ∀ ls : Array Slot, lv_has ls 8 [(0, .ref (G.2.2 0)), (1, .int v1), (2, .int v2), (3, .int v3), (4, .int v4), (5, .int v5), (6, .int y6)] → W p l e ({ frames := 2, cells := 0, slots := 0, locals := 47 } : Room) s m ([.ref (G.2.2 0), .int a1, .int a2, .int a3] : List Value).toArray below meth c s.heap [] 0 0 (TSi below ([.ref (G.2.2 0), .int a1, .int a2, .int a3] : List Value).toArray s (K y6)) (F0 m 101 ls [])) (n2 : Nat) (u6 : Int32) (u7 : Int32) (hm2 : (4 - u7.toInt : Int).toNat < n2) (hi2_0 : 0 ≤ u7.toInt), ∀ ls : Array Slot, lv_has ls 8 [(0, .ref (G.2.2 0)), (1, .int v1), (2, .int v2), (3, .int v3), (4, .int v4), (5, .int v5), (6, .int u6), (7, .int u7)] → W p l e ({ frames := 2, cells := 0, slots := 0, locals := 47 } : Room) s m ([.ref (G.2.2 0), .int a1, .int a2, .int a3] : List Value).toArray below meth c s.heap [] 0 0 (TSi below ([.ref (G.2.2 0), .int a1, .int a2, .int a3] : List Value).toArray s (f_X9_pool_42 K n2 M v1 v2 v3 v4 v5 u6 u7)) (F0 m 42 ls []) := by
                intro K hK2 n2
                induction n2 with
                | zero => intro u6 u7 hm2 hi2_0; exact absurd hm2 (by omega)
                | succ n2 ih2 =>
                  intro u6 u7 hm2 hi2_0 ls hl
                  rw [f_X9_pool_42]
                  refine lv_iload X.1 X.2.1 dX9_pool_42 (lv_at hl 7 rfl) ?_
                  refine lv_iconst (v := 4) X.1 X.2.1 dX9_pool_44 (by decide) ?_
                  refine bi_ge (tgt := 101) X dX9_pool_45 (by decide) (fun c13 => ?_) (fun c13 => ?_)
                  · skip
                    have t14 : 4 ≤ u7.toInt := i_le c13
                    exact hK2 u6  ls (lv_sub hl [0, 1, 2, 3, 4, 5, 6] rfl)
                  · skip
                    have t15 : u7.toInt < 4 := i_nle c13
                    refine lv_iload X.1 X.2.1 dX9_pool_48 (lv_at hl 6 rfl) ?_
                    refine bz_ne (tgt := 88) X dX9_pool_50 (by decide) (fun c16 => ?_) (fun c16 => ?_)
                    · skip
                      have t17 : ¬ u6.toInt = 0 := i_ne c16
                      refine lv_iconst (v := 1) X.1 X.2.1 dX9_pool_88 (by decide) ?_
                      refine lv_goto (tgt := 93) X.1 X.2.1 dX9_pool_89 (by decide) ?_
                      refine lv_istore (lv' := [(6, .int 1), (0, .ref (G.2.2 0)), (1, .int v1), (2, .int v2), (3, .int v3), (4, .int v4), (5, .int v5), (7, .int u7)]) X.1 X.2.1 dX9_pool_93 hl (by decide) rfl (fun ls hl => ?_)
                      refine lv_iinc (v := (u7 + 1)) (lv' := [(7, .int (u7 + 1)), (6, .int 1), (0, .ref (G.2.2 0)), (1, .int v1), (2, .int v2), (3, .int v3), (4, .int v4), (5, .int v5)]) X.1 X.2.1 dX9_pool_95 hl (k := 7) rfl rfl (by decide) rfl (fun ls hl => ?_)
                      refine lv_goto (tgt := 42) X.1 X.2.1 dX9_pool_98 (by decide) ?_
                      have q18 := inc_sp u7
                      exact ih2 1 (u7 + 1) (by omega) (by omega)  ls (lv_sub hl [2, 3, 4, 5, 6, 7, 1, 0] rfl)
                    · skip
                      have t19 : u6.toInt = 0 := i_eq c16
                      refine lv_aload_n X.1 X.2.1 dX9_pool_53 rfl (lv_at hl 0 rfl) ?_
                      refine gF X hw (by decide) hm_MO rfl (by decide +kernel) 3 (by decide) (ref := "RankBenchModel") rfl (by decide +kernel) rfl dX9_pool_54 ?_
                      refine lv_bipush (v := 8) X.1 X.2.1 dX9_pool_57 (by decide) ?_
                      refine lv_iload X.1 X.2.1 dX9_pool_59 (lv_at hl 7 rfl) ?_
                      refine lv_imul X.1 X.2.1 dX9_pool_61 ?_
                      refine lv_iload_n X.1 X.2.1 dX9_pool_62 rfl (lv_at hl 1 rfl) ?_
                      refine lv_iadd X.1 X.2.1 dX9_pool_63 ?_
                      have ix9 := ix8 (r := u7) (q := v1) (by omega) (by omega)
                      refine aZ X hw (by decide) hm_mt (vp_in_iff.mpr ⟨by omega, by omega⟩) dX9_pool_64 ?_
                      refine bz_eq (tgt := 92) X dX9_pool_65 (by decide) (fun c20 => ?_) (fun c20 => ?_)
                      · skip
                        have t21 : (M.1 4 ((8 * u7) + v1).toNatClampNeg).toInt = 0 := i_eq c20
                        refine lv_iconst (v := 0) X.1 X.2.1 dX9_pool_92 (by decide) ?_
                        refine lv_istore (lv' := [(6, .int 0), (0, .ref (G.2.2 0)), (1, .int v1), (2, .int v2), (3, .int v3), (4, .int v4), (5, .int v5), (7, .int u7)]) X.1 X.2.1 dX9_pool_93 hl (by decide) rfl (fun ls hl => ?_)
                        refine lv_iinc (v := (u7 + 1)) (lv' := [(7, .int (u7 + 1)), (6, .int 0), (0, .ref (G.2.2 0)), (1, .int v1), (2, .int v2), (3, .int v3), (4, .int v4), (5, .int v5)]) X.1 X.2.1 dX9_pool_95 hl (k := 7) rfl rfl (by decide) rfl (fun ls hl => ?_)
                        refine lv_goto (tgt := 42) X.1 X.2.1 dX9_pool_98 (by decide) ?_
                        have q22 := inc_sp u7
                        exact ih2 0 (u7 + 1) (by omega) (by omega)  ls (lv_sub hl [2, 3, 4, 5, 6, 7, 1, 0] rfl)
                      · skip
                        have t23 : ¬ (M.1 4 ((8 * u7) + v1).toNatClampNeg).toInt = 0 := i_ne c20
                        refine lv_aload_n X.1 X.2.1 dX9_pool_68 rfl (lv_at hl 0 rfl) ?_
                        refine lv_iload X.1 X.2.1 dX9_pool_69 (lv_at hl 7 rfl) ?_
                        refine lv_iload_n X.1 X.2.1 dX9_pool_71 rfl (lv_at hl 1 rfl) ?_
                        refine lv_iload X.1 X.2.1 dX9_pool_72 (lv_at hl 5 rfl) ?_
                        refine cVI [.int u7, .int v1, .int v5] [] X hw (c_X9_find l G A M u7 v1 v5 (by omega) (by omega)) (cwV 3 X.2.2.2.2 gX9_pool_X9_find rfl rfl rfl (by decide +kernel) ⟨Nat.le_of_ble_eq_true rfl, Nat.le_of_ble_eq_true rfl⟩) (hw.recv (by decide) hm_MO rfl) rfl rfl hl.1 (Nat.le_of_ble_eq_true rfl) dX9_pool_74 ?_
                        refine tni (fun r24 er24 => ?_)
                        refine lv_aload_n X.1 X.2.1 dX9_pool_77 rfl (lv_at hl 0 rfl) ?_
                        refine lv_iload X.1 X.2.1 dX9_pool_78 (lv_at hl 7 rfl) ?_
                        refine lv_iload_n X.1 X.2.1 dX9_pool_80 rfl (lv_at hl 1 rfl) ?_
                        refine lv_iload_n X.1 X.2.1 dX9_pool_81 rfl (lv_at hl 2 rfl) ?_
                        refine cVI [.int u7, .int v1, .int v2] [.int r24] X hw (c_X9_first l G A M u7 v1 v2 (by omega) (by omega)) (cwV 3 X.2.2.2.2 gX9_pool_X9_first rfl rfl rfl (by decide +kernel) ⟨Nat.le_of_ble_eq_true rfl, Nat.le_of_ble_eq_true rfl⟩) (hw.recv (by decide) hm_MO rfl) rfl rfl hl.1 (Nat.le_of_ble_eq_true rfl) dX9_pool_82 ?_
                        refine tni (fun r25 er25 => ?_)
                        have zr25 := g_X9_first hw.2.2.2.2 er25 (by omega) (by omega)
                        refine bi_ge (tgt := 92) X dX9_pool_85 (by decide) (fun c26 => ?_) (fun c26 => ?_)
                        · skip
                          have t27 : r25.toInt ≤ r24.toInt := i_le c26
                          refine lv_iconst (v := 0) X.1 X.2.1 dX9_pool_92 (by decide) ?_
                          refine lv_istore (lv' := [(6, .int 0), (0, .ref (G.2.2 0)), (1, .int v1), (2, .int v2), (3, .int v3), (4, .int v4), (5, .int v5), (7, .int u7)]) X.1 X.2.1 dX9_pool_93 hl (by decide) rfl (fun ls hl => ?_)
                          refine lv_iinc (v := (u7 + 1)) (lv' := [(7, .int (u7 + 1)), (6, .int 0), (0, .ref (G.2.2 0)), (1, .int v1), (2, .int v2), (3, .int v3), (4, .int v4), (5, .int v5)]) X.1 X.2.1 dX9_pool_95 hl (k := 7) rfl rfl (by decide) rfl (fun ls hl => ?_)
                          refine lv_goto (tgt := 42) X.1 X.2.1 dX9_pool_98 (by decide) ?_
                          have q28 := inc_sp u7
                          exact ih2 0 (u7 + 1) (by omega) (by omega)  ls (lv_sub hl [2, 3, 4, 5, 6, 7, 1, 0] rfl)
                        · skip
                          have t29 : r24.toInt < r25.toInt := i_nle c26
                          refine lv_iconst (v := 1) X.1 X.2.1 dX9_pool_88 (by decide) ?_
                          refine lv_goto (tgt := 93) X.1 X.2.1 dX9_pool_89 (by decide) ?_
                          refine lv_istore (lv' := [(6, .int 1), (0, .ref (G.2.2 0)), (1, .int v1), (2, .int v2), (3, .int v3), (4, .int v4), (5, .int v5), (7, .int u7)]) X.1 X.2.1 dX9_pool_93 hl (by decide) rfl (fun ls hl => ?_)
                          refine lv_iinc (v := (u7 + 1)) (lv' := [(7, .int (u7 + 1)), (6, .int 1), (0, .ref (G.2.2 0)), (1, .int v1), (2, .int v2), (3, .int v3), (4, .int v4), (5, .int v5)]) X.1 X.2.1 dX9_pool_95 hl (k := 7) rfl rfl (by decide) rfl (fun ls hl => ?_)
                          refine lv_goto (tgt := 42) X.1 X.2.1 dX9_pool_98 (by decide) ?_
                          have q30 := inc_sp u7
                          exact ih2 1 (u7 + 1) (by omega) (by omega)  ls (lv_sub hl [2, 3, 4, 5, 6, 7, 1, 0] rfl)
              refine L2 _ (fun y6 ls hl => ?_) 5 0 0 (by decide) (by first | omega | decide)  ls (lv_sub hl [2, 3, 4, 5, 6, 7, 1, 0] rfl)
              refine lv_iload X.1 X.2.1 dX9_pool_101 (lv_at hl 6 rfl) ?_
              refine bz_eq (tgt := 127) X dX9_pool_103 (by decide) (fun c31 => ?_) (fun c31 => ?_)
              · skip
                have t32 : y6.toInt = 0 := i_eq c31
                refine lv_iinc (v := (v5 + 1)) (lv' := [(5, .int (v5 + 1)), (0, .ref (G.2.2 0)), (1, .int v1), (2, .int v2), (3, .int v3), (4, .int v4), (6, .int y6)]) X.1 X.2.1 dX9_pool_127 hl (k := 5) rfl rfl (by decide) rfl (fun ls hl => ?_)
                refine lv_goto (tgt := 25) X.1 X.2.1 dX9_pool_130 (by decide) ?_
                have q33 := inc_sp v5
                exact ih1 v1 v2 v3 v4 (v5 + 1) (by omega) (by omega) (by omega)  ls (lv_sub hl [1, 2, 3, 4, 5, 0] rfl)
              · skip
                have t34 : ¬ y6.toInt = 0 := i_ne c31
                refine lv_aload_n X.1 X.2.1 dX9_pool_106 rfl (lv_at hl 0 rfl) ?_
                refine lv_iload_n X.1 X.2.1 dX9_pool_107 rfl (lv_at hl 1 rfl) ?_
                refine lv_iload X.1 X.2.1 dX9_pool_108 (lv_at hl 5 rfl) ?_
                refine cVI [.int v1, .int v5] [] X hw (c_X9_gradeOf l G A M v1 v5 (by omega) (by omega)) (cwV 2 X.2.2.2.2 gX9_pool_X9_gradeOf rfl rfl rfl (by decide +kernel) ⟨Nat.le_of_ble_eq_true rfl, Nat.le_of_ble_eq_true rfl⟩) (hw.recv (by decide) hm_MO rfl) rfl rfl hl.1 (Nat.le_of_ble_eq_true rfl) dX9_pool_110 ?_
                refine tni (fun r35 er35 => ?_)
                refine bz_ge (tgt := 127) X dX9_pool_113 (by decide) (fun c36 => ?_) (fun c36 => ?_)
                · skip
                  have t37 : 0 ≤ r35.toInt := i_le c36
                  refine lv_iinc (v := (v5 + 1)) (lv' := [(5, .int (v5 + 1)), (0, .ref (G.2.2 0)), (1, .int v1), (2, .int v2), (3, .int v3), (4, .int v4), (6, .int y6)]) X.1 X.2.1 dX9_pool_127 hl (k := 5) rfl rfl (by decide) rfl (fun ls hl => ?_)
                  refine lv_goto (tgt := 25) X.1 X.2.1 dX9_pool_130 (by decide) ?_
                  have q38 := inc_sp v5
                  exact ih1 v1 v2 v3 v4 (v5 + 1) (by omega) (by omega) (by omega)  ls (lv_sub hl [1, 2, 3, 4, 5, 0] rfl)
                · skip
                  have t39 : r35.toInt < 0 := i_nle c36
                  refine lv_iload X.1 X.2.1 dX9_pool_116 (lv_at hl 4 rfl) ?_
                  refine bz_ne (tgt := 124) X dX9_pool_118 (by decide) (fun c40 => ?_) (fun c40 => ?_)
                  · skip
                    have t41 : ¬ v4.toInt = 0 := i_ne c40
                    refine lv_iinc (v := (v4 + (-1))) (lv' := [(4, .int (v4 + (-1))), (0, .ref (G.2.2 0)), (1, .int v1), (2, .int v2), (3, .int v3), (5, .int v5), (6, .int y6)]) X.1 X.2.1 dX9_pool_124 hl (k := 4) rfl rfl (by decide) rfl (fun ls hl => ?_)
                    refine lv_iinc (v := (v5 + 1)) (lv' := [(5, .int (v5 + 1)), (4, .int (v4 + (-1))), (0, .ref (G.2.2 0)), (1, .int v1), (2, .int v2), (3, .int v3), (6, .int y6)]) X.1 X.2.1 dX9_pool_127 hl (k := 5) rfl rfl (by decide) rfl (fun ls hl => ?_)
                    refine lv_goto (tgt := 25) X.1 X.2.1 dX9_pool_130 (by decide) ?_
                    have q42 := inc_sp v5
                    exact ih1 v1 v2 v3 (v4 + (-1)) (v5 + 1) (by omega) (by omega) (by omega)  ls (lv_sub hl [2, 3, 4, 5, 1, 0] rfl)
                  · skip
                    have t43 : v4.toInt = 0 := i_eq c40
                    refine lv_iload X.1 X.2.1 dX9_pool_121 (lv_at hl 5 rfl) ?_
                    exact rI X hr hlk dX9_pool_123
      exact L1 25 a1 a2 a3 a3 0 (by decide) (by first | omega | decide) (by first | omega | decide)  ls (lv_sub hl [2, 3, 4, 5, 1, 0] rfl)
    · skip
      have t44 : r4.toInt = 0 := i_eq c5
      refine lv_bipush (v := (-2)) X.1 X.2.1 dX9_pool_16 (by decide) ?_
      exact rI X hr hlk dX9_pool_18
  · skip
    have t45 : r1.toInt = 0 := i_eq c2
    refine lv_iconst (v := (-1)) X.1 X.2.1 dX9_pool_7 (by decide) ?_
    exact rI X hr hlk dX9_pool_8
