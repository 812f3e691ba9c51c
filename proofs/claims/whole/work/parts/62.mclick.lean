/-! 62.mclick -/
def f_X9_laid (M : Mem) (a1 : Int32) (a2 : Int32) (a3 : Int32) (a4 : Int32) (a5 : Int32) : Int32 × Mem := bnd (f_X9_isRow M a1 a3) (fun r1 => if r1 = 0 then ((-1), M) else (bnd (f_X9_isRow M a2 a3) (fun r5 => if r5 = 0 then ((-1), M) else (bnd (f_X9_lay M a1 a2 a3 a4) (fun M8 => if a5 < 0 then ((-3), M8) else (if a5 < (M8.1 0 13) then (if (M8.1 8 a5.toNatClampNeg) = 0 then (((M8.1 7 a5.toNatClampNeg) + 0), M8) else (((M8.1 7 a5.toNatClampNeg) + 100), M8)) else ((-3), M8)))))))
set_option maxRecDepth 100000 in
set_option maxHeartbeats 4000000 in
theorem c_X9_laid (l : Launch) (G : En) (A : Nat → Prop) (M : Mem) (a1 : Int32) (a2 : Int32) (a3 : Int32) (a4 : Int32) (a5 : Int32) : WrI false l yX9_laid wsX9_laid ({ frames := 4, cells := 0, slots := 0, locals := 95 }) G A M [.ref (G.2.2 0), .int a1, .int a2, .int a3, .int a4, .int a5] (f_X9_laid M a1 a2 a3 a4 a5) := by
  refine WrI.of (cc := cX9_laid) (maxL := 6) (ret := (some .int)) (own := RX9) (by decide) rfl rfl (Nat.le_of_ble_eq_true rfl) ?_
  intro p e s m below meth c X hw hr hlk ls hl hS
  have hl : lv_has ls 6 [(0, .ref (G.2.2 0)), (1, .int a1), (2, .int a2), (3, .int a3), (4, .int a4), (5, .int a5)] := hl
  unfold f_X9_laid
  refine lv_aload_n X.1 X.2.1 dX9_laid_0 rfl (lv_at hl 0 rfl) ?_
  refine lv_iload_n X.1 X.2.1 dX9_laid_1 rfl (lv_at hl 1 rfl) ?_
  refine lv_iload_n X.1 X.2.1 dX9_laid_2 rfl (lv_at hl 3 rfl) ?_
  refine cVI [.int a1, .int a3] [] X hw (c_X9_isRow l G A M a1 a3) (cwV 2 X.2.2.2.2 gX9_laid_X9_isRow rfl rfl rfl (by decide +kernel) ⟨Nat.le_of_ble_eq_true rfl, Nat.le_of_ble_eq_true rfl⟩) (hw.recv (by decide) hm_MO rfl) rfl rfl hl.1 (Nat.le_of_ble_eq_true rfl) dX9_laid_3 ?_
  refine tni (fun r1 er1 => ?_)
  have zr1 := row_or er1
  refine bz_eq (tgt := 18) X dX9_laid_6 (by decide) (fun c2 => ?_) (fun c2 => ?_)
  · skip
    have t3 : r1.toInt = 0 := i_eq c2
    refine lv_iconst (v := (-1)) X.1 X.2.1 dX9_laid_18 (by decide) ?_
    exact rQ X hr hlk hw hS dX9_laid_19
  · skip
    have t4 : ¬ r1.toInt = 0 := i_ne c2
    refine lv_aload_n X.1 X.2.1 dX9_laid_9 rfl (lv_at hl 0 rfl) ?_
    refine lv_iload_n X.1 X.2.1 dX9_laid_10 rfl (lv_at hl 2 rfl) ?_
    refine lv_iload_n X.1 X.2.1 dX9_laid_11 rfl (lv_at hl 3 rfl) ?_
    refine cVI [.int a2, .int a3] [] X hw (c_X9_isRow l G A M a2 a3) (cwV 2 X.2.2.2.2 gX9_laid_X9_isRow rfl rfl rfl (by decide +kernel) ⟨Nat.le_of_ble_eq_true rfl, Nat.le_of_ble_eq_true rfl⟩) (hw.recv (by decide) hm_MO rfl) rfl rfl hl.1 (Nat.le_of_ble_eq_true rfl) dX9_laid_12 ?_
    refine tni (fun r5 er5 => ?_)
    have zr5 := row_or er5
    refine bz_ne (tgt := 20) X dX9_laid_15 (by decide) (fun c6 => ?_) (fun c6 => ?_)
    · skip
      have t7 : ¬ r5.toInt = 0 := i_ne c6
      refine lv_aload_n X.1 X.2.1 dX9_laid_20 rfl (lv_at hl 0 rfl) ?_
      refine lv_iload_n X.1 X.2.1 dX9_laid_21 rfl (lv_at hl 1 rfl) ?_
      refine lv_iload_n X.1 X.2.1 dX9_laid_22 rfl (lv_at hl 2 rfl) ?_
      refine lv_iload_n X.1 X.2.1 dX9_laid_23 rfl (lv_at hl 3 rfl) ?_
      refine lv_iload X.1 X.2.1 dX9_laid_24 (lv_at hl 4 rfl) ?_
      refine cVW [.int a1, .int a2, .int a3, .int a4] [] X hw hS (c_X9_lay l G A M a1 a2 a3 a4 (by omega) (by omega) (by omega)) (cwV 4 X.2.2.2.2 gX9_laid_X9_lay rfl rfl rfl (by decide +kernel) ⟨Nat.le_of_ble_eq_true rfl, Nat.le_of_ble_eq_true rfl⟩) (hw.recv (by decide) hm_MO rfl) rfl rfl hl.1 (Nat.le_of_ble_eq_true rfl) dX9_laid_26 (fun H locs hw hS => ?_)
      refine tpb (fun M8 eM8 => ?_)
      rw [← eM8] at hw
      have zl := hw.2.2.2.2.2.2.2.1
      refine lv_iload X.1 X.2.1 dX9_laid_29 (lv_at hl 5 rfl) ?_
      refine bz_lt (tgt := 43) X dX9_laid_31 (by decide) (fun c9 => ?_) (fun c9 => ?_)
      · skip
        have t10 : a5.toInt < 0 := i_lt c9
        refine lv_bipush (v := (-3)) X.1 X.2.1 dX9_laid_43 (by decide) ?_
        refine lv_goto (tgt := 72) X.1 X.2.1 dX9_laid_45 (by decide) ?_
        exact rQ X hr hlk hw hS dX9_laid_72
      · skip
        have t11 : 0 ≤ a5.toInt := i_nlt c9
        refine lv_iload X.1 X.2.1 dX9_laid_34 (lv_at hl 5 rfl) ?_
        refine lv_aload_n X.1 X.2.1 dX9_laid_36 rfl (lv_at hl 0 rfl) ?_
        refine gF X hw (by decide) hm_MO rfl (by decide +kernel) 13 (by decide) (ref := "RankBenchModel") rfl (by decide +kernel) rfl dX9_laid_37 ?_
        refine bi_lt (tgt := 48) X dX9_laid_40 (by decide) (fun c12 => ?_) (fun c12 => ?_)
        · skip
          have t13 : a5.toInt < (M8.1 0 13).toInt := i_lt c12
          refine lv_aload_n X.1 X.2.1 dX9_laid_48 rfl (lv_at hl 0 rfl) ?_
          refine gF X hw (by decide) hm_MO rfl (by decide +kernel) 11 (by decide) (ref := "RankBenchModel") rfl (by decide +kernel) rfl dX9_laid_49 ?_
          refine lv_iload X.1 X.2.1 dX9_laid_52 (lv_at hl 5 rfl) ?_
          refine aI X hw (by decide) hm_ml (vp_in_iff.mpr ⟨by omega, by omega⟩) dX9_laid_54 ?_
          refine lv_aload_n X.1 X.2.1 dX9_laid_55 rfl (lv_at hl 0 rfl) ?_
          refine gF X hw (by decide) hm_MO rfl (by decide +kernel) 12 (by decide) (ref := "RankBenchModel") rfl (by decide +kernel) rfl dX9_laid_56 ?_
          refine lv_iload X.1 X.2.1 dX9_laid_59 (lv_at hl 5 rfl) ?_
          refine aZ X hw (by decide) hm_my (vp_in_iff.mpr ⟨by omega, by omega⟩) dX9_laid_61 ?_
          refine bz_eq (tgt := 70) X dX9_laid_62 (by decide) (fun c14 => ?_) (fun c14 => ?_)
          · skip
            have t15 : (M8.1 8 a5.toNatClampNeg).toInt = 0 := i_eq c14
            refine lv_iconst (v := 0) X.1 X.2.1 dX9_laid_70 (by decide) ?_
            refine lv_iadd X.1 X.2.1 dX9_laid_71 ?_
            exact rQ X hr hlk hw hS dX9_laid_72
          · skip
            have t16 : ¬ (M8.1 8 a5.toNatClampNeg).toInt = 0 := i_ne c14
            refine lv_bipush (v := 100) X.1 X.2.1 dX9_laid_65 (by decide) ?_
            refine lv_goto (tgt := 71) X.1 X.2.1 dX9_laid_67 (by decide) ?_
            refine lv_iadd X.1 X.2.1 dX9_laid_71 ?_
            exact rQ X hr hlk hw hS dX9_laid_72
        · skip
          have t17 : (M8.1 0 13).toInt ≤ a5.toInt := i_nlt c12
          refine lv_bipush (v := (-3)) X.1 X.2.1 dX9_laid_43 (by decide) ?_
          refine lv_goto (tgt := 72) X.1 X.2.1 dX9_laid_45 (by decide) ?_
          exact rQ X hr hlk hw hS dX9_laid_72
    · skip
      have t18 : r5.toInt = 0 := i_eq c6
      refine lv_iconst (v := (-1)) X.1 X.2.1 dX9_laid_18 (by decide) ?_
      exact rQ X hr hlk hw hS dX9_laid_19

def f_X9_clicked_18 : Nat → Mem → Int32 → Int32 → Int32 → Int32 → Int32 × Mem
  | 0, M, _, _, _, _ => (0, M)
  | n1 + 1, M, v3, v5, v6, v7 => if (M.1 0 13) ≤ v7 then (v5, M) else (if v6 = 0 then (v5, M) else (bnd (f_X9_gradeOf M v3 (M.1 7 v7.toNatClampNeg)) (fun r8 => if (0 : Int32) ≤ r8 then (if r8 = 0 then (bnd (f_X9_draw M) (fun p38 => if (10 : Int32) ≤ (p38.1 - p38.1 / 100 * 100) then (f_X9_clicked_18 n1 p38.2 v3 v5 v6 (v7 + 1)) else (if (p38.2.1 8 v7.toNatClampNeg) = 0 then (bnd (v5 + 1) (fun x45 => bnd (f_X9_draw p38.2) (fun p47 => if (p47.1 - p47.1 / 100 * 100) < 50 then (f_X9_clicked_18 n1 p47.2 v3 x45 0 (v7 + 1)) else (f_X9_clicked_18 n1 p47.2 v3 x45 1 (v7 + 1))))) else (bnd (v5 + 100) (fun x54 => bnd (f_X9_draw p38.2) (fun p55 => if (p55.1 - p55.1 / 100 * 100) < 50 then (f_X9_clicked_18 n1 p55.2 v3 x54 0 (v7 + 1)) else (f_X9_clicked_18 n1 p55.2 v3 x54 1 (v7 + 1)))))))) else (bnd (30 * r8) (fun x13 => bnd (f_X9_draw M) (fun p14 => if x13 ≤ (p14.1 - p14.1 / 100 * 100) then (f_X9_clicked_18 n1 p14.2 v3 v5 v6 (v7 + 1)) else (if (p14.2.1 8 v7.toNatClampNeg) = 0 then (bnd (v5 + 1) (fun x21 => bnd (f_X9_draw p14.2) (fun p23 => if (p23.1 - p23.1 / 100 * 100) < 50 then (f_X9_clicked_18 n1 p23.2 v3 x21 0 (v7 + 1)) else (f_X9_clicked_18 n1 p23.2 v3 x21 1 (v7 + 1))))) else (bnd (v5 + 100) (fun x30 => bnd (f_X9_draw p14.2) (fun p31 => if (p31.1 - p31.1 / 100 * 100) < 50 then (f_X9_clicked_18 n1 p31.2 v3 x30 0 (v7 + 1)) else (f_X9_clicked_18 n1 p31.2 v3 x30 1 (v7 + 1)))))))))) else (bnd (f_X9_draw M) (fun p62 => if (20 : Int32) ≤ (p62.1 - p62.1 / 100 * 100) then (f_X9_clicked_18 n1 p62.2 v3 v5 v6 (v7 + 1)) else (if (p62.2.1 8 v7.toNatClampNeg) = 0 then (bnd (v5 + 1) (fun x69 => bnd (f_X9_draw p62.2) (fun p71 => if (p71.1 - p71.1 / 100 * 100) < 50 then (f_X9_clicked_18 n1 p71.2 v3 x69 0 (v7 + 1)) else (f_X9_clicked_18 n1 p71.2 v3 x69 1 (v7 + 1))))) else (bnd (v5 + 100) (fun x78 => bnd (f_X9_draw p62.2) (fun p79 => if (p79.1 - p79.1 / 100 * 100) < 50 then (f_X9_clicked_18 n1 p79.2 v3 x78 0 (v7 + 1)) else (f_X9_clicked_18 n1 p79.2 v3 x78 1 (v7 + 1)))))))))))
def f_X9_clicked (M : Mem) (a1 : Int32) (a2 : Int32) (a3 : Int32) (a4 : Int32) : Int32 × Mem := bnd (f_X9_lay M a1 a2 a3 a4) (fun M1 => f_X9_clicked_18 17 M1 a3 0 1 0)
set_option maxRecDepth 100000 in
set_option maxHeartbeats 4000000 in
theorem c_X9_clicked (l : Launch) (G : En) (A : Nat → Prop) (M : Mem) (a1 : Int32) (a2 : Int32) (a3 : Int32) (a4 : Int32) (hra : 0 ≤ a1.toInt ∧ a1.toInt < 4) (hrb : 0 ≤ a2.toInt ∧ a2.toInt < 4) (hqa : 0 ≤ a3.toInt ∧ a3.toInt < 8) : WrI false l yX9_clicked wsX9_clicked ({ frames := 4, cells := 0, slots := 0, locals := 95 }) G A M [.ref (G.2.2 0), .int a1, .int a2, .int a3, .int a4] (f_X9_clicked M a1 a2 a3 a4) := by
  refine WrI.of (cc := cX9_clicked) (maxL := 10) (ret := (some .int)) (own := RX9) (by decide) rfl rfl (Nat.le_of_ble_eq_true rfl) ?_
  intro p e s m below meth c X hw hr hlk ls hl hS
  have hl : lv_has ls 10 [(0, .ref (G.2.2 0)), (1, .int a1), (2, .int a2), (3, .int a3), (4, .int a4)] := hl
  unfold f_X9_clicked
  refine lv_aload_n X.1 X.2.1 dX9_clicked_0 rfl (lv_at hl 0 rfl) ?_
  refine lv_iload_n X.1 X.2.1 dX9_clicked_1 rfl (lv_at hl 1 rfl) ?_
  refine lv_iload_n X.1 X.2.1 dX9_clicked_2 rfl (lv_at hl 2 rfl) ?_
  refine lv_iload_n X.1 X.2.1 dX9_clicked_3 rfl (lv_at hl 3 rfl) ?_
  refine lv_iload X.1 X.2.1 dX9_clicked_4 (lv_at hl 4 rfl) ?_
  refine cVW [.int a1, .int a2, .int a3, .int a4] [] X hw hS (c_X9_lay l G A M a1 a2 a3 a4 (by omega) (by omega) (by omega)) (cwV 4 X.2.2.2.2 gX9_clicked_X9_lay rfl rfl rfl (by decide +kernel) ⟨Nat.le_of_ble_eq_true rfl, Nat.le_of_ble_eq_true rfl⟩) (hw.recv (by decide) hm_MO rfl) rfl rfl hl.1 (Nat.le_of_ble_eq_true rfl) dX9_clicked_6 (fun H locs hw hS => ?_)
  refine tpb (fun M1 eM1 => ?_)
  rw [← eM1] at hw
  refine lv_iconst (v := 0) X.1 X.2.1 dX9_clicked_9 (by decide) ?_
  refine lv_istore (lv' := [(5, .int 0), (0, .ref (G.2.2 0)), (1, .int a1), (2, .int a2), (3, .int a3), (4, .int a4)]) X.1 X.2.1 dX9_clicked_10 hl (by decide) rfl (fun ls hl => ?_)
  refine lv_iconst (v := 1) X.1 X.2.1 dX9_clicked_12 (by decide) ?_
  refine lv_istore (lv' := [(6, .int 1), (5, .int 0), (0, .ref (G.2.2 0)), (1, .int a1), (2, .int a2), (3, .int a3), (4, .int a4)]) X.1 X.2.1 dX9_clicked_13 hl (by decide) rfl (fun ls hl => ?_)
  refine lv_iconst (v := 0) X.1 X.2.1 dX9_clicked_15 (by decide) ?_
  refine lv_istore (lv' := [(7, .int 0), (6, .int 1), (5, .int 0), (0, .ref (G.2.2 0)), (1, .int a1), (2, .int a2), (3, .int a3), (4, .int a4)]) X.1 X.2.1 dX9_clicked_16 hl (by decide) rfl (fun ls hl => ?_)
  have L1 : ∀ (n1 : Nat) (M : Mem) (v3 : Int32) (v5 : Int32) (v6 : Int32) (v7 : Int32)  (hm1 : (16 - v7.toInt : Int).toNat < n1) (hi1_0 : 0 ≤ v7.toInt) (hi1_1 : 0 ≤ v3.toInt ∧ v3.toInt < 8), ∀ (H : Heap) (locs : List Loc), WD false G A M s H → va_S A s.heap H locs → ∀ ls : Array Slot, lv_has ls 10 [(0, .ref (G.2.2 0)), (3, .int v3), (5, .int v5), (6, .int v6), (7, .int v7)] → W p l e ({ frames := 4, cells := 0, slots := 0, locals := 95 } : Room) s m ([.ref (G.2.2 0), .int a1, .int a2, .int a3, .int a4] : List Value).toArray below meth c H locs 0 0 (TQi false G A below ([.ref (G.2.2 0), .int a1, .int a2, .int a3, .int a4] : List Value).toArray s (f_X9_clicked_18 n1 M v3 v5 v6 v7)) (F0 m 18 ls []) := by
    intro n1
    induction n1 with
    | zero => intro M v3 v5 v6 v7 hm1 hi1_0 hi1_1; exact absurd hm1 (by omega)
    | succ n1 ih1 =>
      intro M v3 v5 v6 v7 hm1 hi1_0 hi1_1 H locs hw hS ls hl
      rw [f_X9_clicked_18]
      refine lv_iload X.1 X.2.1 dX9_clicked_18 (lv_at hl 4 rfl) ?_
      refine lv_aload_n X.1 X.2.1 dX9_clicked_20 rfl (lv_at hl 0 rfl) ?_
      have zl := hw.2.2.2.2.2.2.2.1
      refine gF X hw (by decide) hm_MO rfl (by decide +kernel) 13 (by decide) (ref := "RankBenchModel") rfl (by decide +kernel) rfl dX9_clicked_21 ?_
      refine bi_ge (tgt := 131) X dX9_clicked_24 (by decide) (fun c2 => ?_) (fun c2 => ?_)
      · skip
        have t3 : (M.1 0 13).toInt ≤ v7.toInt := i_le c2
        refine lv_iload X.1 X.2.1 dX9_clicked_131 (lv_at hl 2 rfl) ?_
        exact rQ X hr hlk hw hS dX9_clicked_133
      · skip
        have t4 : v7.toInt < (M.1 0 13).toInt := i_nle c2
        refine lv_iload X.1 X.2.1 dX9_clicked_27 (lv_at hl 3 rfl) ?_
        refine bz_eq (tgt := 131) X dX9_clicked_29 (by decide) (fun c5 => ?_) (fun c5 => ?_)
        · skip
          have t6 : v6.toInt = 0 := i_eq c5
          refine lv_iload X.1 X.2.1 dX9_clicked_131 (lv_at hl 2 rfl) ?_
          exact rQ X hr hlk hw hS dX9_clicked_133
        · skip
          have t7 : ¬ v6.toInt = 0 := i_ne c5
          refine lv_aload_n X.1 X.2.1 dX9_clicked_32 rfl (lv_at hl 0 rfl) ?_
          refine lv_iload_n X.1 X.2.1 dX9_clicked_33 rfl (lv_at hl 1 rfl) ?_
          refine lv_aload_n X.1 X.2.1 dX9_clicked_34 rfl (lv_at hl 0 rfl) ?_
          refine gF X hw (by decide) hm_MO rfl (by decide +kernel) 11 (by decide) (ref := "RankBenchModel") rfl (by decide +kernel) rfl dX9_clicked_35 ?_
          refine lv_iload X.1 X.2.1 dX9_clicked_38 (lv_at hl 4 rfl) ?_
          refine aI X hw (by decide) hm_ml (vp_in_iff.mpr ⟨by omega, by omega⟩) dX9_clicked_40 ?_
          have zd := hw.2.2.2.2.2.2.1 v7.toNatClampNeg (clampN (by omega) (by omega))
          refine cVI [.int v3, .int (M.1 7 v7.toNatClampNeg)] [] X hw (c_X9_gradeOf l G A M v3 (M.1 7 v7.toNatClampNeg) (by omega) (by omega)) (cwV 2 X.2.2.2.2 gX9_clicked_X9_gradeOf rfl rfl rfl (by decide +kernel) ⟨Nat.le_of_ble_eq_true rfl, Nat.le_of_ble_eq_true rfl⟩) (hw.recv (by decide) hm_MO rfl) rfl rfl hl.1 (Nat.le_of_ble_eq_true rfl) dX9_clicked_41 ?_
          refine tni (fun r8 er8 => ?_)
          refine lv_istore (lv' := [(8, .int r8), (0, .ref (G.2.2 0)), (3, .int v3), (5, .int v5), (6, .int v6), (7, .int v7)]) X.1 X.2.1 dX9_clicked_44 hl (by decide) rfl (fun ls hl => ?_)
          refine lv_iload X.1 X.2.1 dX9_clicked_46 (lv_at hl 0 rfl) ?_
          refine bz_ge (tgt := 56) X dX9_clicked_48 (by decide) (fun c9 => ?_) (fun c9 => ?_)
          · skip
            have t10 : 0 ≤ r8.toInt := i_le c9
            refine lv_iload X.1 X.2.1 dX9_clicked_56 (lv_at hl 0 rfl) ?_
            refine bz_ne (tgt := 66) X dX9_clicked_58 (by decide) (fun c11 => ?_) (fun c11 => ?_)
            · skip
              have t12 : ¬ r8.toInt = 0 := i_ne c11
              refine lv_bipush (v := 30) X.1 X.2.1 dX9_clicked_66 (by decide) ?_
              refine lv_iload X.1 X.2.1 dX9_clicked_68 (lv_at hl 0 rfl) ?_
              refine lv_imul X.1 X.2.1 dX9_clicked_70 ?_
              refine tni (fun x13 ex13 => ?_)
              refine lv_istore (lv' := [(9, .int x13), (8, .int r8), (0, .ref (G.2.2 0)), (3, .int v3), (5, .int v5), (6, .int v6), (7, .int v7)]) X.1 X.2.1 dX9_clicked_71 hl (by decide) rfl (fun ls hl => ?_)
              refine lv_aload_n X.1 X.2.1 dX9_clicked_73 rfl (lv_at hl 2 rfl) ?_
              refine cVJ [] [] X hw hS (c_X9_draw l G A M ) (cwV 0 X.2.2.2.2 gX9_clicked_X9_draw rfl rfl rfl (by decide +kernel) ⟨Nat.le_of_ble_eq_true rfl, Nat.le_of_ble_eq_true rfl⟩) (hw.recv (by decide) hm_MO rfl) rfl rfl hl.1 (Nat.le_of_ble_eq_true rfl) dX9_clicked_74 (fun H locs hw hS => ?_)
              refine tpb (fun p14 ep14 => ?_)
              rw [← ep14] at hw
              rw [← ep14]
              refine lv_bipush (v := 100) X.1 X.2.1 dX9_clicked_77 (by decide) ?_
              refine lv_irem X.1 X.2.1 dX9_clicked_79 (by first | decide | assumption | omega) ?_
              refine lv_iload X.1 X.2.1 dX9_clicked_80 (lv_at hl 0 rfl) ?_
              refine bi_ge (tgt := 125) X dX9_clicked_82 (by decide) (fun c15 => ?_) (fun c15 => ?_)
              · skip
                have t16 : x13.toInt ≤ (p14.1 - p14.1 / 100 * 100).toInt := i_le c15
                refine lv_iinc (v := (v7 + 1)) (lv' := [(7, .int (v7 + 1)), (9, .int x13), (8, .int r8), (0, .ref (G.2.2 0)), (3, .int v3), (5, .int v5), (6, .int v6)]) X.1 X.2.1 dX9_clicked_125 hl (k := 6) rfl rfl (by decide) rfl (fun ls hl => ?_)
                refine lv_goto (tgt := 18) X.1 X.2.1 dX9_clicked_128 (by decide) ?_
                have q17 := inc_sp v7
                exact ih1 p14.2 v3 v5 v6 (v7 + 1) (by omega) (by omega) (by omega) _ _ hw hS ls (lv_sub hl [3, 4, 5, 6, 0] rfl)
              · skip
                have t18 : (p14.1 - p14.1 / 100 * 100).toInt < x13.toInt := i_nle c15
                refine lv_iload X.1 X.2.1 dX9_clicked_85 (lv_at hl 4 rfl) ?_
                refine lv_aload_n X.1 X.2.1 dX9_clicked_87 rfl (lv_at hl 2 rfl) ?_
                refine gF X hw (by decide) hm_MO rfl (by decide +kernel) 12 (by decide) (ref := "RankBenchModel") rfl (by decide +kernel) rfl dX9_clicked_88 ?_
                refine lv_iload X.1 X.2.1 dX9_clicked_91 (lv_at hl 6 rfl) ?_
                refine aZ X hw (by decide) hm_my (vp_in_iff.mpr ⟨by omega, by omega⟩) dX9_clicked_93 ?_
                refine bz_eq (tgt := 102) X dX9_clicked_94 (by decide) (fun c19 => ?_) (fun c19 => ?_)
                · skip
                  have t20 : (p14.2.1 8 v7.toNatClampNeg).toInt = 0 := i_eq c19
                  refine lv_iconst (v := 1) X.1 X.2.1 dX9_clicked_102 (by decide) ?_
                  refine lv_iadd X.1 X.2.1 dX9_clicked_103 ?_
                  refine tni (fun x21 ex21 => ?_)
                  have q22 := inc_sp v5
                  rw [← ex21] at q22
                  refine lv_istore (lv' := [(5, .int x21), (9, .int x13), (8, .int r8), (0, .ref (G.2.2 0)), (3, .int v3), (6, .int v6), (7, .int v7)]) X.1 X.2.1 dX9_clicked_104 hl (by decide) rfl (fun ls hl => ?_)
                  refine lv_aload_n X.1 X.2.1 dX9_clicked_106 rfl (lv_at hl 3 rfl) ?_
                  refine cVJ [] [] X hw hS (c_X9_draw l G A p14.2 ) (cwV 0 X.2.2.2.2 gX9_clicked_X9_draw rfl rfl rfl (by decide +kernel) ⟨Nat.le_of_ble_eq_true rfl, Nat.le_of_ble_eq_true rfl⟩) (hw.recv (by decide) hm_MO rfl) rfl rfl hl.1 (Nat.le_of_ble_eq_true rfl) dX9_clicked_107 (fun H locs hw hS => ?_)
                  refine tpb (fun p23 ep23 => ?_)
                  rw [← ep23] at hw
                  rw [← ep23]
                  refine lv_bipush (v := 100) X.1 X.2.1 dX9_clicked_110 (by decide) ?_
                  refine lv_irem X.1 X.2.1 dX9_clicked_112 (by first | decide | assumption | omega) ?_
                  refine lv_bipush (v := 50) X.1 X.2.1 dX9_clicked_113 (by decide) ?_
                  refine bi_lt (tgt := 122) X dX9_clicked_115 (by decide) (fun c24 => ?_) (fun c24 => ?_)
                  · skip
                    have t25 : (p23.1 - p23.1 / 100 * 100).toInt < 50 := i_lt c24
                    refine lv_iconst (v := 0) X.1 X.2.1 dX9_clicked_122 (by decide) ?_
                    refine lv_istore (lv' := [(6, .int 0), (5, .int x21), (9, .int x13), (8, .int r8), (0, .ref (G.2.2 0)), (3, .int v3), (7, .int v7)]) X.1 X.2.1 dX9_clicked_123 hl (by decide) rfl (fun ls hl => ?_)
                    refine lv_iinc (v := (v7 + 1)) (lv' := [(7, .int (v7 + 1)), (6, .int 0), (5, .int x21), (9, .int x13), (8, .int r8), (0, .ref (G.2.2 0)), (3, .int v3)]) X.1 X.2.1 dX9_clicked_125 hl (k := 6) rfl rfl (by decide) rfl (fun ls hl => ?_)
                    refine lv_goto (tgt := 18) X.1 X.2.1 dX9_clicked_128 (by decide) ?_
                    have q26 := inc_sp v7
                    exact ih1 p23.2 v3 x21 0 (v7 + 1) (by omega) (by omega) (by omega) _ _ hw hS ls (lv_sub hl [5, 6, 2, 1, 0] rfl)
                  · skip
                    have t27 : 50 ≤ (p23.1 - p23.1 / 100 * 100).toInt := i_nlt c24
                    refine lv_iconst (v := 1) X.1 X.2.1 dX9_clicked_118 (by decide) ?_
                    refine lv_goto (tgt := 123) X.1 X.2.1 dX9_clicked_119 (by decide) ?_
                    refine lv_istore (lv' := [(6, .int 1), (5, .int x21), (9, .int x13), (8, .int r8), (0, .ref (G.2.2 0)), (3, .int v3), (7, .int v7)]) X.1 X.2.1 dX9_clicked_123 hl (by decide) rfl (fun ls hl => ?_)
                    refine lv_iinc (v := (v7 + 1)) (lv' := [(7, .int (v7 + 1)), (6, .int 1), (5, .int x21), (9, .int x13), (8, .int r8), (0, .ref (G.2.2 0)), (3, .int v3)]) X.1 X.2.1 dX9_clicked_125 hl (k := 6) rfl rfl (by decide) rfl (fun ls hl => ?_)
                    refine lv_goto (tgt := 18) X.1 X.2.1 dX9_clicked_128 (by decide) ?_
                    have q28 := inc_sp v7
                    exact ih1 p23.2 v3 x21 1 (v7 + 1) (by omega) (by omega) (by omega) _ _ hw hS ls (lv_sub hl [5, 6, 2, 1, 0] rfl)
                · skip
                  have t29 : ¬ (p14.2.1 8 v7.toNatClampNeg).toInt = 0 := i_ne c19
                  refine lv_bipush (v := 100) X.1 X.2.1 dX9_clicked_97 (by decide) ?_
                  refine lv_goto (tgt := 103) X.1 X.2.1 dX9_clicked_99 (by decide) ?_
                  refine lv_iadd X.1 X.2.1 dX9_clicked_103 ?_
                  refine tni (fun x30 ex30 => ?_)
                  refine lv_istore (lv' := [(5, .int x30), (9, .int x13), (8, .int r8), (0, .ref (G.2.2 0)), (3, .int v3), (6, .int v6), (7, .int v7)]) X.1 X.2.1 dX9_clicked_104 hl (by decide) rfl (fun ls hl => ?_)
                  refine lv_aload_n X.1 X.2.1 dX9_clicked_106 rfl (lv_at hl 3 rfl) ?_
                  refine cVJ [] [] X hw hS (c_X9_draw l G A p14.2 ) (cwV 0 X.2.2.2.2 gX9_clicked_X9_draw rfl rfl rfl (by decide +kernel) ⟨Nat.le_of_ble_eq_true rfl, Nat.le_of_ble_eq_true rfl⟩) (hw.recv (by decide) hm_MO rfl) rfl rfl hl.1 (Nat.le_of_ble_eq_true rfl) dX9_clicked_107 (fun H locs hw hS => ?_)
                  refine tpb (fun p31 ep31 => ?_)
                  rw [← ep31] at hw
                  rw [← ep31]
                  refine lv_bipush (v := 100) X.1 X.2.1 dX9_clicked_110 (by decide) ?_
                  refine lv_irem X.1 X.2.1 dX9_clicked_112 (by first | decide | assumption | omega) ?_
                  refine lv_bipush (v := 50) X.1 X.2.1 dX9_clicked_113 (by decide) ?_
                  refine bi_lt (tgt := 122) X dX9_clicked_115 (by decide) (fun c32 => ?_) (fun c32 => ?_)
                  · skip
                    have t33 : (p31.1 - p31.1 / 100 * 100).toInt < 50 := i_lt c32
                    refine lv_iconst (v := 0) X.1 X.2.1 dX9_clicked_122 (by decide) ?_
                    refine lv_istore (lv' := [(6, .int 0), (5, .int x30), (9, .int x13), (8, .int r8), (0, .ref (G.2.2 0)), (3, .int v3), (7, .int v7)]) X.1 X.2.1 dX9_clicked_123 hl (by decide) rfl (fun ls hl => ?_)
                    refine lv_iinc (v := (v7 + 1)) (lv' := [(7, .int (v7 + 1)), (6, .int 0), (5, .int x30), (9, .int x13), (8, .int r8), (0, .ref (G.2.2 0)), (3, .int v3)]) X.1 X.2.1 dX9_clicked_125 hl (k := 6) rfl rfl (by decide) rfl (fun ls hl => ?_)
                    refine lv_goto (tgt := 18) X.1 X.2.1 dX9_clicked_128 (by decide) ?_
                    have q34 := inc_sp v7
                    exact ih1 p31.2 v3 x30 0 (v7 + 1) (by omega) (by omega) (by omega) _ _ hw hS ls (lv_sub hl [5, 6, 2, 1, 0] rfl)
                  · skip
                    have t35 : 50 ≤ (p31.1 - p31.1 / 100 * 100).toInt := i_nlt c32
                    refine lv_iconst (v := 1) X.1 X.2.1 dX9_clicked_118 (by decide) ?_
                    refine lv_goto (tgt := 123) X.1 X.2.1 dX9_clicked_119 (by decide) ?_
                    refine lv_istore (lv' := [(6, .int 1), (5, .int x30), (9, .int x13), (8, .int r8), (0, .ref (G.2.2 0)), (3, .int v3), (7, .int v7)]) X.1 X.2.1 dX9_clicked_123 hl (by decide) rfl (fun ls hl => ?_)
                    refine lv_iinc (v := (v7 + 1)) (lv' := [(7, .int (v7 + 1)), (6, .int 1), (5, .int x30), (9, .int x13), (8, .int r8), (0, .ref (G.2.2 0)), (3, .int v3)]) X.1 X.2.1 dX9_clicked_125 hl (k := 6) rfl rfl (by decide) rfl (fun ls hl => ?_)
                    refine lv_goto (tgt := 18) X.1 X.2.1 dX9_clicked_128 (by decide) ?_
                    have q36 := inc_sp v7
                    exact ih1 p31.2 v3 x30 1 (v7 + 1) (by omega) (by omega) (by omega) _ _ hw hS ls (lv_sub hl [5, 6, 2, 1, 0] rfl)
            · skip
              have t37 : r8.toInt = 0 := i_eq c11
              refine lv_bipush (v := 10) X.1 X.2.1 dX9_clicked_61 (by decide) ?_
              refine lv_goto (tgt := 71) X.1 X.2.1 dX9_clicked_63 (by decide) ?_
              refine lv_istore (lv' := [(9, .int 10), (8, .int r8), (0, .ref (G.2.2 0)), (3, .int v3), (5, .int v5), (6, .int v6), (7, .int v7)]) X.1 X.2.1 dX9_clicked_71 hl (by decide) rfl (fun ls hl => ?_)
              refine lv_aload_n X.1 X.2.1 dX9_clicked_73 rfl (lv_at hl 2 rfl) ?_
              refine cVJ [] [] X hw hS (c_X9_draw l G A M ) (cwV 0 X.2.2.2.2 gX9_clicked_X9_draw rfl rfl rfl (by decide +kernel) ⟨Nat.le_of_ble_eq_true rfl, Nat.le_of_ble_eq_true rfl⟩) (hw.recv (by decide) hm_MO rfl) rfl rfl hl.1 (Nat.le_of_ble_eq_true rfl) dX9_clicked_74 (fun H locs hw hS => ?_)
              refine tpb (fun p38 ep38 => ?_)
              rw [← ep38] at hw
              rw [← ep38]
              refine lv_bipush (v := 100) X.1 X.2.1 dX9_clicked_77 (by decide) ?_
              refine lv_irem X.1 X.2.1 dX9_clicked_79 (by first | decide | assumption | omega) ?_
              refine lv_iload X.1 X.2.1 dX9_clicked_80 (lv_at hl 0 rfl) ?_
              refine bi_ge (tgt := 125) X dX9_clicked_82 (by decide) (fun c39 => ?_) (fun c39 => ?_)
              · skip
                have t40 : 10 ≤ (p38.1 - p38.1 / 100 * 100).toInt := i_le c39
                refine lv_iinc (v := (v7 + 1)) (lv' := [(7, .int (v7 + 1)), (9, .int 10), (8, .int r8), (0, .ref (G.2.2 0)), (3, .int v3), (5, .int v5), (6, .int v6)]) X.1 X.2.1 dX9_clicked_125 hl (k := 6) rfl rfl (by decide) rfl (fun ls hl => ?_)
                refine lv_goto (tgt := 18) X.1 X.2.1 dX9_clicked_128 (by decide) ?_
                have q41 := inc_sp v7
                exact ih1 p38.2 v3 v5 v6 (v7 + 1) (by omega) (by omega) (by omega) _ _ hw hS ls (lv_sub hl [3, 4, 5, 6, 0] rfl)
              · skip
                have t42 : (p38.1 - p38.1 / 100 * 100).toInt < 10 := i_nle c39
                refine lv_iload X.1 X.2.1 dX9_clicked_85 (lv_at hl 4 rfl) ?_
                refine lv_aload_n X.1 X.2.1 dX9_clicked_87 rfl (lv_at hl 2 rfl) ?_
                refine gF X hw (by decide) hm_MO rfl (by decide +kernel) 12 (by decide) (ref := "RankBenchModel") rfl (by decide +kernel) rfl dX9_clicked_88 ?_
                refine lv_iload X.1 X.2.1 dX9_clicked_91 (lv_at hl 6 rfl) ?_
                refine aZ X hw (by decide) hm_my (vp_in_iff.mpr ⟨by omega, by omega⟩) dX9_clicked_93 ?_
                refine bz_eq (tgt := 102) X dX9_clicked_94 (by decide) (fun c43 => ?_) (fun c43 => ?_)
                · skip
                  have t44 : (p38.2.1 8 v7.toNatClampNeg).toInt = 0 := i_eq c43
                  refine lv_iconst (v := 1) X.1 X.2.1 dX9_clicked_102 (by decide) ?_
                  refine lv_iadd X.1 X.2.1 dX9_clicked_103 ?_
                  refine tni (fun x45 ex45 => ?_)
                  have q46 := inc_sp v5
                  rw [← ex45] at q46
                  refine lv_istore (lv' := [(5, .int x45), (9, .int 10), (8, .int r8), (0, .ref (G.2.2 0)), (3, .int v3), (6, .int v6), (7, .int v7)]) X.1 X.2.1 dX9_clicked_104 hl (by decide) rfl (fun ls hl => ?_)
                  refine lv_aload_n X.1 X.2.1 dX9_clicked_106 rfl (lv_at hl 3 rfl) ?_
                  refine cVJ [] [] X hw hS (c_X9_draw l G A p38.2 ) (cwV 0 X.2.2.2.2 gX9_clicked_X9_draw rfl rfl rfl (by decide +kernel) ⟨Nat.le_of_ble_eq_true rfl, Nat.le_of_ble_eq_true rfl⟩) (hw.recv (by decide) hm_MO rfl) rfl rfl hl.1 (Nat.le_of_ble_eq_true rfl) dX9_clicked_107 (fun H locs hw hS => ?_)
                  refine tpb (fun p47 ep47 => ?_)
                  rw [← ep47] at hw
                  rw [← ep47]
                  refine lv_bipush (v := 100) X.1 X.2.1 dX9_clicked_110 (by decide) ?_
                  refine lv_irem X.1 X.2.1 dX9_clicked_112 (by first | decide | assumption | omega) ?_
                  refine lv_bipush (v := 50) X.1 X.2.1 dX9_clicked_113 (by decide) ?_
                  refine bi_lt (tgt := 122) X dX9_clicked_115 (by decide) (fun c48 => ?_) (fun c48 => ?_)
                  · skip
                    have t49 : (p47.1 - p47.1 / 100 * 100).toInt < 50 := i_lt c48
                    refine lv_iconst (v := 0) X.1 X.2.1 dX9_clicked_122 (by decide) ?_
                    refine lv_istore (lv' := [(6, .int 0), (5, .int x45), (9, .int 10), (8, .int r8), (0, .ref (G.2.2 0)), (3, .int v3), (7, .int v7)]) X.1 X.2.1 dX9_clicked_123 hl (by decide) rfl (fun ls hl => ?_)
                    refine lv_iinc (v := (v7 + 1)) (lv' := [(7, .int (v7 + 1)), (6, .int 0), (5, .int x45), (9, .int 10), (8, .int r8), (0, .ref (G.2.2 0)), (3, .int v3)]) X.1 X.2.1 dX9_clicked_125 hl (k := 6) rfl rfl (by decide) rfl (fun ls hl => ?_)
                    refine lv_goto (tgt := 18) X.1 X.2.1 dX9_clicked_128 (by decide) ?_
                    have q50 := inc_sp v7
                    exact ih1 p47.2 v3 x45 0 (v7 + 1) (by omega) (by omega) (by omega) _ _ hw hS ls (lv_sub hl [5, 6, 2, 1, 0] rfl)
                  · skip
                    have t51 : 50 ≤ (p47.1 - p47.1 / 100 * 100).toInt := i_nlt c48
                    refine lv_iconst (v := 1) X.1 X.2.1 dX9_clicked_118 (by decide) ?_
                    refine lv_goto (tgt := 123) X.1 X.2.1 dX9_clicked_119 (by decide) ?_
                    refine lv_istore (lv' := [(6, .int 1), (5, .int x45), (9, .int 10), (8, .int r8), (0, .ref (G.2.2 0)), (3, .int v3), (7, .int v7)]) X.1 X.2.1 dX9_clicked_123 hl (by decide) rfl (fun ls hl => ?_)
                    refine lv_iinc (v := (v7 + 1)) (lv' := [(7, .int (v7 + 1)), (6, .int 1), (5, .int x45), (9, .int 10), (8, .int r8), (0, .ref (G.2.2 0)), (3, .int v3)]) X.1 X.2.1 dX9_clicked_125 hl (k := 6) rfl rfl (by decide) rfl (fun ls hl => ?_)
                    refine lv_goto (tgt := 18) X.1 X.2.1 dX9_clicked_128 (by decide) ?_
                    have q52 := inc_sp v7
                    exact ih1 p47.2 v3 x45 1 (v7 + 1) (by omega) (by omega) (by omega) _ _ hw hS ls (lv_sub hl [5, 6, 2, 1, 0] rfl)
                · skip
                  have t53 : ¬ (p38.2.1 8 v7.toNatClampNeg).toInt = 0 := i_ne c43
                  refine lv_bipush (v := 100) X.1 X.2.1 dX9_clicked_97 (by decide) ?_
                  refine lv_goto (tgt := 103) X.1 X.2.1 dX9_clicked_99 (by decide) ?_
                  refine lv_iadd X.1 X.2.1 dX9_clicked_103 ?_
                  refine tni (fun x54 ex54 => ?_)
                  refine lv_istore (lv' := [(5, .int x54), (9, .int 10), (8, .int r8), (0, .ref (G.2.2 0)), (3, .int v3), (6, .int v6), (7, .int v7)]) X.1 X.2.1 dX9_clicked_104 hl (by decide) rfl (fun ls hl => ?_)
                  refine lv_aload_n X.1 X.2.1 dX9_clicked_106 rfl (lv_at hl 3 rfl) ?_
                  refine cVJ [] [] X hw hS (c_X9_draw l G A p38.2 ) (cwV 0 X.2.2.2.2 gX9_clicked_X9_draw rfl rfl rfl (by decide +kernel) ⟨Nat.le_of_ble_eq_true rfl, Nat.le_of_ble_eq_true rfl⟩) (hw.recv (by decide) hm_MO rfl) rfl rfl hl.1 (Nat.le_of_ble_eq_true rfl) dX9_clicked_107 (fun H locs hw hS => ?_)
                  refine tpb (fun p55 ep55 => ?_)
                  rw [← ep55] at hw
                  rw [← ep55]
                  refine lv_bipush (v := 100) X.1 X.2.1 dX9_clicked_110 (by decide) ?_
                  refine lv_irem X.1 X.2.1 dX9_clicked_112 (by first | decide | assumption | omega) ?_
                  refine lv_bipush (v := 50) X.1 X.2.1 dX9_clicked_113 (by decide) ?_
                  refine bi_lt (tgt := 122) X dX9_clicked_115 (by decide) (fun c56 => ?_) (fun c56 => ?_)
                  · skip
                    have t57 : (p55.1 - p55.1 / 100 * 100).toInt < 50 := i_lt c56
                    refine lv_iconst (v := 0) X.1 X.2.1 dX9_clicked_122 (by decide) ?_
                    refine lv_istore (lv' := [(6, .int 0), (5, .int x54), (9, .int 10), (8, .int r8), (0, .ref (G.2.2 0)), (3, .int v3), (7, .int v7)]) X.1 X.2.1 dX9_clicked_123 hl (by decide) rfl (fun ls hl => ?_)
                    refine lv_iinc (v := (v7 + 1)) (lv' := [(7, .int (v7 + 1)), (6, .int 0), (5, .int x54), (9, .int 10), (8, .int r8), (0, .ref (G.2.2 0)), (3, .int v3)]) X.1 X.2.1 dX9_clicked_125 hl (k := 6) rfl rfl (by decide) rfl (fun ls hl => ?_)
                    refine lv_goto (tgt := 18) X.1 X.2.1 dX9_clicked_128 (by decide) ?_
                    have q58 := inc_sp v7
                    exact ih1 p55.2 v3 x54 0 (v7 + 1) (by omega) (by omega) (by omega) _ _ hw hS ls (lv_sub hl [5, 6, 2, 1, 0] rfl)
                  · skip
                    have t59 : 50 ≤ (p55.1 - p55.1 / 100 * 100).toInt := i_nlt c56
                    refine lv_iconst (v := 1) X.1 X.2.1 dX9_clicked_118 (by decide) ?_
                    refine lv_goto (tgt := 123) X.1 X.2.1 dX9_clicked_119 (by decide) ?_
                    refine lv_istore (lv' := [(6, .int 1), (5, .int x54), (9, .int 10), (8, .int r8), (0, .ref (G.2.2 0)), (3, .int v3), (7, .int v7)]) X.1 X.2.1 dX9_clicked_123 hl (by decide) rfl (fun ls hl => ?_)
                    refine lv_iinc (v := (v7 + 1)) (lv' := [(7, .int (v7 + 1)), (6, .int 1), (5, .int x54), (9, .int 10), (8, .int r8), (0, .ref (G.2.2 0)), (3, .int v3)]) X.1 X.2.1 dX9_clicked_125 hl (k := 6) rfl rfl (by decide) rfl (fun ls hl => ?_)
                    refine lv_goto (tgt := 18) X.1 X.2.1 dX9_clicked_128 (by decide) ?_
                    have q60 := inc_sp v7
                    exact ih1 p55.2 v3 x54 1 (v7 + 1) (by omega) (by omega) (by omega) _ _ hw hS ls (lv_sub hl [5, 6, 2, 1, 0] rfl)
          · skip
            have t61 : r8.toInt < 0 := i_nle c9
            refine lv_bipush (v := 20) X.1 X.2.1 dX9_clicked_51 (by decide) ?_
            refine lv_goto (tgt := 71) X.1 X.2.1 dX9_clicked_53 (by decide) ?_
            refine lv_istore (lv' := [(9, .int 20), (8, .int r8), (0, .ref (G.2.2 0)), (3, .int v3), (5, .int v5), (6, .int v6), (7, .int v7)]) X.1 X.2.1 dX9_clicked_71 hl (by decide) rfl (fun ls hl => ?_)
            refine lv_aload_n X.1 X.2.1 dX9_clicked_73 rfl (lv_at hl 2 rfl) ?_
            refine cVJ [] [] X hw hS (c_X9_draw l G A M ) (cwV 0 X.2.2.2.2 gX9_clicked_X9_draw rfl rfl rfl (by decide +kernel) ⟨Nat.le_of_ble_eq_true rfl, Nat.le_of_ble_eq_true rfl⟩) (hw.recv (by decide) hm_MO rfl) rfl rfl hl.1 (Nat.le_of_ble_eq_true rfl) dX9_clicked_74 (fun H locs hw hS => ?_)
            refine tpb (fun p62 ep62 => ?_)
            rw [← ep62] at hw
            rw [← ep62]
            refine lv_bipush (v := 100) X.1 X.2.1 dX9_clicked_77 (by decide) ?_
            refine lv_irem X.1 X.2.1 dX9_clicked_79 (by first | decide | assumption | omega) ?_
            refine lv_iload X.1 X.2.1 dX9_clicked_80 (lv_at hl 0 rfl) ?_
            refine bi_ge (tgt := 125) X dX9_clicked_82 (by decide) (fun c63 => ?_) (fun c63 => ?_)
            · skip
              have t64 : 20 ≤ (p62.1 - p62.1 / 100 * 100).toInt := i_le c63
              refine lv_iinc (v := (v7 + 1)) (lv' := [(7, .int (v7 + 1)), (9, .int 20), (8, .int r8), (0, .ref (G.2.2 0)), (3, .int v3), (5, .int v5), (6, .int v6)]) X.1 X.2.1 dX9_clicked_125 hl (k := 6) rfl rfl (by decide) rfl (fun ls hl => ?_)
              refine lv_goto (tgt := 18) X.1 X.2.1 dX9_clicked_128 (by decide) ?_
              have q65 := inc_sp v7
              exact ih1 p62.2 v3 v5 v6 (v7 + 1) (by omega) (by omega) (by omega) _ _ hw hS ls (lv_sub hl [3, 4, 5, 6, 0] rfl)
            · skip
              have t66 : (p62.1 - p62.1 / 100 * 100).toInt < 20 := i_nle c63
              refine lv_iload X.1 X.2.1 dX9_clicked_85 (lv_at hl 4 rfl) ?_
              refine lv_aload_n X.1 X.2.1 dX9_clicked_87 rfl (lv_at hl 2 rfl) ?_
              refine gF X hw (by decide) hm_MO rfl (by decide +kernel) 12 (by decide) (ref := "RankBenchModel") rfl (by decide +kernel) rfl dX9_clicked_88 ?_
              refine lv_iload X.1 X.2.1 dX9_clicked_91 (lv_at hl 6 rfl) ?_
              refine aZ X hw (by decide) hm_my (vp_in_iff.mpr ⟨by omega, by omega⟩) dX9_clicked_93 ?_
              refine bz_eq (tgt := 102) X dX9_clicked_94 (by decide) (fun c67 => ?_) (fun c67 => ?_)
              · skip
                have t68 : (p62.2.1 8 v7.toNatClampNeg).toInt = 0 := i_eq c67
                refine lv_iconst (v := 1) X.1 X.2.1 dX9_clicked_102 (by decide) ?_
                refine lv_iadd X.1 X.2.1 dX9_clicked_103 ?_
                refine tni (fun x69 ex69 => ?_)
                have q70 := inc_sp v5
                rw [← ex69] at q70
                refine lv_istore (lv' := [(5, .int x69), (9, .int 20), (8, .int r8), (0, .ref (G.2.2 0)), (3, .int v3), (6, .int v6), (7, .int v7)]) X.1 X.2.1 dX9_clicked_104 hl (by decide) rfl (fun ls hl => ?_)
                refine lv_aload_n X.1 X.2.1 dX9_clicked_106 rfl (lv_at hl 3 rfl) ?_
                refine cVJ [] [] X hw hS (c_X9_draw l G A p62.2 ) (cwV 0 X.2.2.2.2 gX9_clicked_X9_draw rfl rfl rfl (by decide +kernel) ⟨Nat.le_of_ble_eq_true rfl, Nat.le_of_ble_eq_true rfl⟩) (hw.recv (by decide) hm_MO rfl) rfl rfl hl.1 (Nat.le_of_ble_eq_true rfl) dX9_clicked_107 (fun H locs hw hS => ?_)
                refine tpb (fun p71 ep71 => ?_)
                rw [← ep71] at hw
                rw [← ep71]
                refine lv_bipush (v := 100) X.1 X.2.1 dX9_clicked_110 (by decide) ?_
                refine lv_irem X.1 X.2.1 dX9_clicked_112 (by first | decide | assumption | omega) ?_
                refine lv_bipush (v := 50) X.1 X.2.1 dX9_clicked_113 (by decide) ?_
                refine bi_lt (tgt := 122) X dX9_clicked_115 (by decide) (fun c72 => ?_) (fun c72 => ?_)
                · skip
                  have t73 : (p71.1 - p71.1 / 100 * 100).toInt < 50 := i_lt c72
                  refine lv_iconst (v := 0) X.1 X.2.1 dX9_clicked_122 (by decide) ?_
                  refine lv_istore (lv' := [(6, .int 0), (5, .int x69), (9, .int 20), (8, .int r8), (0, .ref (G.2.2 0)), (3, .int v3), (7, .int v7)]) X.1 X.2.1 dX9_clicked_123 hl (by decide) rfl (fun ls hl => ?_)
                  refine lv_iinc (v := (v7 + 1)) (lv' := [(7, .int (v7 + 1)), (6, .int 0), (5, .int x69), (9, .int 20), (8, .int r8), (0, .ref (G.2.2 0)), (3, .int v3)]) X.1 X.2.1 dX9_clicked_125 hl (k := 6) rfl rfl (by decide) rfl (fun ls hl => ?_)
                  refine lv_goto (tgt := 18) X.1 X.2.1 dX9_clicked_128 (by decide) ?_
                  have q74 := inc_sp v7
                  exact ih1 p71.2 v3 x69 0 (v7 + 1) (by omega) (by omega) (by omega) _ _ hw hS ls (lv_sub hl [5, 6, 2, 1, 0] rfl)
                · skip
                  have t75 : 50 ≤ (p71.1 - p71.1 / 100 * 100).toInt := i_nlt c72
                  refine lv_iconst (v := 1) X.1 X.2.1 dX9_clicked_118 (by decide) ?_
                  refine lv_goto (tgt := 123) X.1 X.2.1 dX9_clicked_119 (by decide) ?_
                  refine lv_istore (lv' := [(6, .int 1), (5, .int x69), (9, .int 20), (8, .int r8), (0, .ref (G.2.2 0)), (3, .int v3), (7, .int v7)]) X.1 X.2.1 dX9_clicked_123 hl (by decide) rfl (fun ls hl => ?_)
                  refine lv_iinc (v := (v7 + 1)) (lv' := [(7, .int (v7 + 1)), (6, .int 1), (5, .int x69), (9, .int 20), (8, .int r8), (0, .ref (G.2.2 0)), (3, .int v3)]) X.1 X.2.1 dX9_clicked_125 hl (k := 6) rfl rfl (by decide) rfl (fun ls hl => ?_)
                  refine lv_goto (tgt := 18) X.1 X.2.1 dX9_clicked_128 (by decide) ?_
                  have q76 := inc_sp v7
                  exact ih1 p71.2 v3 x69 1 (v7 + 1) (by omega) (by omega) (by omega) _ _ hw hS ls (lv_sub hl [5, 6, 2, 1, 0] rfl)
              · skip
                have t77 : ¬ (p62.2.1 8 v7.toNatClampNeg).toInt = 0 := i_ne c67
                refine lv_bipush (v := 100) X.1 X.2.1 dX9_clicked_97 (by decide) ?_
                refine lv_goto (tgt := 103) X.1 X.2.1 dX9_clicked_99 (by decide) ?_
                refine lv_iadd X.1 X.2.1 dX9_clicked_103 ?_
                refine tni (fun x78 ex78 => ?_)
                refine lv_istore (lv' := [(5, .int x78), (9, .int 20), (8, .int r8), (0, .ref (G.2.2 0)), (3, .int v3), (6, .int v6), (7, .int v7)]) X.1 X.2.1 dX9_clicked_104 hl (by decide) rfl (fun ls hl => ?_)
                refine lv_aload_n X.1 X.2.1 dX9_clicked_106 rfl (lv_at hl 3 rfl) ?_
                refine cVJ [] [] X hw hS (c_X9_draw l G A p62.2 ) (cwV 0 X.2.2.2.2 gX9_clicked_X9_draw rfl rfl rfl (by decide +kernel) ⟨Nat.le_of_ble_eq_true rfl, Nat.le_of_ble_eq_true rfl⟩) (hw.recv (by decide) hm_MO rfl) rfl rfl hl.1 (Nat.le_of_ble_eq_true rfl) dX9_clicked_107 (fun H locs hw hS => ?_)
                refine tpb (fun p79 ep79 => ?_)
                rw [← ep79] at hw
                rw [← ep79]
                refine lv_bipush (v := 100) X.1 X.2.1 dX9_clicked_110 (by decide) ?_
                refine lv_irem X.1 X.2.1 dX9_clicked_112 (by first | decide | assumption | omega) ?_
                refine lv_bipush (v := 50) X.1 X.2.1 dX9_clicked_113 (by decide) ?_
                refine bi_lt (tgt := 122) X dX9_clicked_115 (by decide) (fun c80 => ?_) (fun c80 => ?_)
                · skip
                  have t81 : (p79.1 - p79.1 / 100 * 100).toInt < 50 := i_lt c80
                  refine lv_iconst (v := 0) X.1 X.2.1 dX9_clicked_122 (by decide) ?_
                  refine lv_istore (lv' := [(6, .int 0), (5, .int x78), (9, .int 20), (8, .int r8), (0, .ref (G.2.2 0)), (3, .int v3), (7, .int v7)]) X.1 X.2.1 dX9_clicked_123 hl (by decide) rfl (fun ls hl => ?_)
                  refine lv_iinc (v := (v7 + 1)) (lv' := [(7, .int (v7 + 1)), (6, .int 0), (5, .int x78), (9, .int 20), (8, .int r8), (0, .ref (G.2.2 0)), (3, .int v3)]) X.1 X.2.1 dX9_clicked_125 hl (k := 6) rfl rfl (by decide) rfl (fun ls hl => ?_)
                  refine lv_goto (tgt := 18) X.1 X.2.1 dX9_clicked_128 (by decide) ?_
                  have q82 := inc_sp v7
                  exact ih1 p79.2 v3 x78 0 (v7 + 1) (by omega) (by omega) (by omega) _ _ hw hS ls (lv_sub hl [5, 6, 2, 1, 0] rfl)
                · skip
                  have t83 : 50 ≤ (p79.1 - p79.1 / 100 * 100).toInt := i_nlt c80
                  refine lv_iconst (v := 1) X.1 X.2.1 dX9_clicked_118 (by decide) ?_
                  refine lv_goto (tgt := 123) X.1 X.2.1 dX9_clicked_119 (by decide) ?_
                  refine lv_istore (lv' := [(6, .int 1), (5, .int x78), (9, .int 20), (8, .int r8), (0, .ref (G.2.2 0)), (3, .int v3), (7, .int v7)]) X.1 X.2.1 dX9_clicked_123 hl (by decide) rfl (fun ls hl => ?_)
                  refine lv_iinc (v := (v7 + 1)) (lv' := [(7, .int (v7 + 1)), (6, .int 1), (5, .int x78), (9, .int 20), (8, .int r8), (0, .ref (G.2.2 0)), (3, .int v3)]) X.1 X.2.1 dX9_clicked_125 hl (k := 6) rfl rfl (by decide) rfl (fun ls hl => ?_)
                  refine lv_goto (tgt := 18) X.1 X.2.1 dX9_clicked_128 (by decide) ?_
                  have q84 := inc_sp v7
                  exact ih1 p79.2 v3 x78 1 (v7 + 1) (by omega) (by omega) (by omega) _ _ hw hS ls (lv_sub hl [5, 6, 2, 1, 0] rfl)
  exact L1 17 M1 a3 0 1 0 (by decide) (by first | omega | decide) (by first | omega | decide) _ _ hw hS ls (lv_sub hl [3, 6, 2, 1, 0] rfl)

def f_X9_clicks (M : Mem) (a1 : Int32) (a2 : Int32) (a3 : Int32) (a4 : Int32) : Int32 × Mem := bnd (f_X9_isRow M a1 a3) (fun r1 => if r1 = 0 then ((-1), M) else (bnd (f_X9_isRow M a2 a3) (fun r5 => if r5 = 0 then ((-1), M) else (bnd (f_X9_clicked M a1 a2 a3 a4) (fun p8 => (p8.1, p8.2))))))
set_option maxRecDepth 100000 in
set_option maxHeartbeats 4000000 in
theorem c_X9_clicks (l : Launch) (G : En) (A : Nat → Prop) (M : Mem) (a1 : Int32) (a2 : Int32) (a3 : Int32) (a4 : Int32) : WrI false l yX9_clicks wsX9_clicks ({ frames := 5, cells := 0, slots := 0, locals := 124 }) G A M [.ref (G.2.2 0), .int a1, .int a2, .int a3, .int a4] (f_X9_clicks M a1 a2 a3 a4) := by
  refine WrI.of (cc := cX9_clicks) (maxL := 5) (ret := (some .int)) (own := RX9) (by decide) rfl rfl (Nat.le_of_ble_eq_true rfl) ?_
  intro p e s m below meth c X hw hr hlk ls hl hS
  have hl : lv_has ls 5 [(0, .ref (G.2.2 0)), (1, .int a1), (2, .int a2), (3, .int a3), (4, .int a4)] := hl
  unfold f_X9_clicks
  refine lv_aload_n X.1 X.2.1 dX9_clicks_0 rfl (lv_at hl 0 rfl) ?_
  refine lv_iload_n X.1 X.2.1 dX9_clicks_1 rfl (lv_at hl 1 rfl) ?_
  refine lv_iload_n X.1 X.2.1 dX9_clicks_2 rfl (lv_at hl 3 rfl) ?_
  refine cVI [.int a1, .int a3] [] X hw (c_X9_isRow l G A M a1 a3) (cwV 2 X.2.2.2.2 gX9_clicks_X9_isRow rfl rfl rfl (by decide +kernel) ⟨Nat.le_of_ble_eq_true rfl, Nat.le_of_ble_eq_true rfl⟩) (hw.recv (by decide) hm_MO rfl) rfl rfl hl.1 (Nat.le_of_ble_eq_true rfl) dX9_clicks_3 ?_
  refine tni (fun r1 er1 => ?_)
  have zr1 := row_or er1
  refine bz_eq (tgt := 18) X dX9_clicks_6 (by decide) (fun c2 => ?_) (fun c2 => ?_)
  · skip
    have t3 : r1.toInt = 0 := i_eq c2
    refine lv_iconst (v := (-1)) X.1 X.2.1 dX9_clicks_18 (by decide) ?_
    exact rQ X hr hlk hw hS dX9_clicks_19
  · skip
    have t4 : ¬ r1.toInt = 0 := i_ne c2
    refine lv_aload_n X.1 X.2.1 dX9_clicks_9 rfl (lv_at hl 0 rfl) ?_
    refine lv_iload_n X.1 X.2.1 dX9_clicks_10 rfl (lv_at hl 2 rfl) ?_
    refine lv_iload_n X.1 X.2.1 dX9_clicks_11 rfl (lv_at hl 3 rfl) ?_
    refine cVI [.int a2, .int a3] [] X hw (c_X9_isRow l G A M a2 a3) (cwV 2 X.2.2.2.2 gX9_clicks_X9_isRow rfl rfl rfl (by decide +kernel) ⟨Nat.le_of_ble_eq_true rfl, Nat.le_of_ble_eq_true rfl⟩) (hw.recv (by decide) hm_MO rfl) rfl rfl hl.1 (Nat.le_of_ble_eq_true rfl) dX9_clicks_12 ?_
    refine tni (fun r5 er5 => ?_)
    have zr5 := row_or er5
    refine bz_ne (tgt := 20) X dX9_clicks_15 (by decide) (fun c6 => ?_) (fun c6 => ?_)
    · skip
      have t7 : ¬ r5.toInt = 0 := i_ne c6
      refine lv_aload_n X.1 X.2.1 dX9_clicks_20 rfl (lv_at hl 0 rfl) ?_
      refine lv_iload_n X.1 X.2.1 dX9_clicks_21 rfl (lv_at hl 1 rfl) ?_
      refine lv_iload_n X.1 X.2.1 dX9_clicks_22 rfl (lv_at hl 2 rfl) ?_
      refine lv_iload_n X.1 X.2.1 dX9_clicks_23 rfl (lv_at hl 3 rfl) ?_
      refine lv_iload X.1 X.2.1 dX9_clicks_24 (lv_at hl 4 rfl) ?_
      refine cVJ [.int a1, .int a2, .int a3, .int a4] [] X hw hS (c_X9_clicked l G A M a1 a2 a3 a4 (by omega) (by omega) (by omega)) (cwV 4 X.2.2.2.2 gX9_clicks_X9_clicked rfl rfl rfl (by decide +kernel) ⟨Nat.le_of_ble_eq_true rfl, Nat.le_of_ble_eq_true rfl⟩) (hw.recv (by decide) hm_MO rfl) rfl rfl hl.1 (Nat.le_of_ble_eq_true rfl) dX9_clicks_26 (fun H locs hw hS => ?_)
      refine tpb (fun p8 ep8 => ?_)
      rw [← ep8] at hw
      rw [← ep8]
      exact rQ X hr hlk hw hS dX9_clicks_29
    · skip
      have t9 : r5.toInt = 0 := i_eq c6
      refine lv_iconst (v := (-1)) X.1 X.2.1 dX9_clicks_18 (by decide) ?_
      exact rQ X hr hlk hw hS dX9_clicks_19

def f_X9_prefer_42 : Nat → Mem → Int32 → Int32 → Int32 → Int32 → Int32 → Int32 → Int32 → Int32 × Mem
  | 0, M, _, _, _, _, _, _, _ => (0, M)
  | n1 + 1, M, v1, v2, v3, v4, v5, v6, v7 => if v5 ≤ v7 then (v6, M) else (bnd (f_X9_clicked M v1 v2 v3 (v4 + v7)) (fun p16 => bnd p16.1 (fun x17 => if (x17 - x17 / 100 * 100) ≤ (x17 / 100) then (if (x17 / 100) ≤ (x17 - x17 / 100 * 100) then (bnd (v6 + 0) (fun x22 => f_X9_prefer_42 n1 p16.2 v1 v2 v3 v4 v5 x22 (v7 + 1))) else (bnd (v6 + 100) (fun x25 => f_X9_prefer_42 n1 p16.2 v1 v2 v3 v4 v5 x25 (v7 + 1)))) else (bnd (v6 + 1) (fun x28 => f_X9_prefer_42 n1 p16.2 v1 v2 v3 v4 v5 x28 (v7 + 1))))))
def f_X9_prefer (M : Mem) (a1 : Int32) (a2 : Int32) (a3 : Int32) (a4 : Int32) (a5 : Int32) : Int32 × Mem := bnd (f_X9_isRow M a1 a3) (fun r1 => if r1 = 0 then ((-1), M) else (bnd (f_X9_isRow M a2 a3) (fun r5 => if r5 = 0 then ((-1), M) else (if a5 < 1 then ((-2), M) else (if a5 ≤ 50 then (f_X9_prefer_42 ((a5.toInt - 0 : Int).toNat + 1) M a1 a2 a3 a4 a5 0 0) else ((-2), M))))))
set_option maxRecDepth 100000 in
set_option maxHeartbeats 4000000 in
theorem c_X9_prefer (l : Launch) (G : En) (A : Nat → Prop) (M : Mem) (a1 : Int32) (a2 : Int32) (a3 : Int32) (a4 : Int32) (a5 : Int32) : WrI false l yX9_prefer wsX9_prefer ({ frames := 5, cells := 0, slots := 0, locals := 124 }) G A M [.ref (G.2.2 0), .int a1, .int a2, .int a3, .int a4, .int a5] (f_X9_prefer M a1 a2 a3 a4 a5) := by
  refine WrI.of (cc := cX9_prefer) (maxL := 9) (ret := (some .int)) (own := RX9) (by decide) rfl rfl (Nat.le_of_ble_eq_true rfl) ?_
  intro p e s m below meth c X hw hr hlk ls hl hS
  have hl : lv_has ls 9 [(0, .ref (G.2.2 0)), (1, .int a1), (2, .int a2), (3, .int a3), (4, .int a4), (5, .int a5)] := hl
  unfold f_X9_prefer
  refine lv_aload_n X.1 X.2.1 dX9_prefer_0 rfl (lv_at hl 0 rfl) ?_
  refine lv_iload_n X.1 X.2.1 dX9_prefer_1 rfl (lv_at hl 1 rfl) ?_
  refine lv_iload_n X.1 X.2.1 dX9_prefer_2 rfl (lv_at hl 3 rfl) ?_
  refine cVI [.int a1, .int a3] [] X hw (c_X9_isRow l G A M a1 a3) (cwV 2 X.2.2.2.2 gX9_prefer_X9_isRow rfl rfl rfl (by decide +kernel) ⟨Nat.le_of_ble_eq_true rfl, Nat.le_of_ble_eq_true rfl⟩) (hw.recv (by decide) hm_MO rfl) rfl rfl hl.1 (Nat.le_of_ble_eq_true rfl) dX9_prefer_3 ?_
  refine tni (fun r1 er1 => ?_)
  have zr1 := row_or er1
  refine bz_eq (tgt := 18) X dX9_prefer_6 (by decide) (fun c2 => ?_) (fun c2 => ?_)
  · skip
    have t3 : r1.toInt = 0 := i_eq c2
    refine lv_iconst (v := (-1)) X.1 X.2.1 dX9_prefer_18 (by decide) ?_
    exact rQ X hr hlk hw hS dX9_prefer_19
  · skip
    have t4 : ¬ r1.toInt = 0 := i_ne c2
    refine lv_aload_n X.1 X.2.1 dX9_prefer_9 rfl (lv_at hl 0 rfl) ?_
    refine lv_iload_n X.1 X.2.1 dX9_prefer_10 rfl (lv_at hl 2 rfl) ?_
    refine lv_iload_n X.1 X.2.1 dX9_prefer_11 rfl (lv_at hl 3 rfl) ?_
    refine cVI [.int a2, .int a3] [] X hw (c_X9_isRow l G A M a2 a3) (cwV 2 X.2.2.2.2 gX9_prefer_X9_isRow rfl rfl rfl (by decide +kernel) ⟨Nat.le_of_ble_eq_true rfl, Nat.le_of_ble_eq_true rfl⟩) (hw.recv (by decide) hm_MO rfl) rfl rfl hl.1 (Nat.le_of_ble_eq_true rfl) dX9_prefer_12 ?_
    refine tni (fun r5 er5 => ?_)
    have zr5 := row_or er5
    refine bz_ne (tgt := 20) X dX9_prefer_15 (by decide) (fun c6 => ?_) (fun c6 => ?_)
    · skip
      have t7 : ¬ r5.toInt = 0 := i_ne c6
      refine lv_iload X.1 X.2.1 dX9_prefer_20 (lv_at hl 5 rfl) ?_
      refine lv_iconst (v := 1) X.1 X.2.1 dX9_prefer_22 (by decide) ?_
      refine bi_lt (tgt := 33) X dX9_prefer_23 (by decide) (fun c8 => ?_) (fun c8 => ?_)
      · skip
        have t9 : a5.toInt < 1 := i_lt c8
        refine lv_bipush (v := (-2)) X.1 X.2.1 dX9_prefer_33 (by decide) ?_
        exact rQ X hr hlk hw hS dX9_prefer_35
      · skip
        have t10 : 1 ≤ a5.toInt := i_nlt c8
        refine lv_iload X.1 X.2.1 dX9_prefer_26 (lv_at hl 5 rfl) ?_
        refine lv_bipush (v := 50) X.1 X.2.1 dX9_prefer_28 (by decide) ?_
        refine bi_le (tgt := 36) X dX9_prefer_30 (by decide) (fun c11 => ?_) (fun c11 => ?_)
        · skip
          have t12 : a5.toInt ≤ 50 := i_le c11
          refine lv_iconst (v := 0) X.1 X.2.1 dX9_prefer_36 (by decide) ?_
          refine lv_istore (lv' := [(6, .int 0), (0, .ref (G.2.2 0)), (1, .int a1), (2, .int a2), (3, .int a3), (4, .int a4), (5, .int a5)]) X.1 X.2.1 dX9_prefer_37 hl (by decide) rfl (fun ls hl => ?_)
          refine lv_iconst (v := 0) X.1 X.2.1 dX9_prefer_39 (by decide) ?_
          refine lv_istore (lv' := [(7, .int 0), (6, .int 0), (0, .ref (G.2.2 0)), (1, .int a1), (2, .int a2), (3, .int a3), (4, .int a4), (5, .int a5)]) X.1 X.2.1 dX9_prefer_40 hl (by decide) rfl (fun ls hl => ?_)
          have L1 : ∀ (n1 : Nat) (M : Mem) (v1 : Int32) (v2 : Int32) (v3 : Int32) (v4 : Int32) (v5 : Int32) (v6 : Int32) (v7 : Int32)  (hm1 : (v5.toInt - v7.toInt : Int).toNat < n1) (hi1_0 : v5.toInt ≤ 50) (hi1_1 : 0 ≤ v1.toInt ∧ v1.toInt < 4) (hi1_2 : 0 ≤ v2.toInt ∧ v2.toInt < 4) (hi1_3 : 0 ≤ v3.toInt ∧ v3.toInt < 8), ∀ (H : Heap) (locs : List Loc), WD false G A M s H → va_S A s.heap H locs → ∀ ls : Array Slot, lv_has ls 9 [(0, .ref (G.2.2 0)), (1, .int v1), (2, .int v2), (3, .int v3), (4, .int v4), (5, .int v5), (6, .int v6), (7, .int v7)] → W p l e ({ frames := 5, cells := 0, slots := 0, locals := 124 } : Room) s m ([.ref (G.2.2 0), .int a1, .int a2, .int a3, .int a4, .int a5] : List Value).toArray below meth c H locs 0 0 (TQi false G A below ([.ref (G.2.2 0), .int a1, .int a2, .int a3, .int a4, .int a5] : List Value).toArray s (f_X9_prefer_42 n1 M v1 v2 v3 v4 v5 v6 v7)) (F0 m 42 ls []) := by
            intro n1
            induction n1 with
            | zero => intro M v1 v2 v3 v4 v5 v6 v7 hm1 hi1_0 hi1_1 hi1_2 hi1_3; exact absurd hm1 (by omega)
            | succ n1 ih1 =>
              intro M v1 v2 v3 v4 v5 v6 v7 hm1 hi1_0 hi1_1 hi1_2 hi1_3 H locs hw hS ls hl
              rw [f_X9_prefer_42]
              refine lv_iload X.1 X.2.1 dX9_prefer_42 (lv_at hl 7 rfl) ?_
              refine lv_iload X.1 X.2.1 dX9_prefer_44 (lv_at hl 5 rfl) ?_
              refine bi_ge (tgt := 110) X dX9_prefer_46 (by decide) (fun c13 => ?_) (fun c13 => ?_)
              · skip
                have t14 : v5.toInt ≤ v7.toInt := i_le c13
                refine lv_iload X.1 X.2.1 dX9_prefer_110 (lv_at hl 6 rfl) ?_
                exact rQ X hr hlk hw hS dX9_prefer_112
              · skip
                have t15 : v7.toInt < v5.toInt := i_nle c13
                refine lv_aload_n X.1 X.2.1 dX9_prefer_49 rfl (lv_at hl 0 rfl) ?_
                refine lv_iload_n X.1 X.2.1 dX9_prefer_50 rfl (lv_at hl 1 rfl) ?_
                refine lv_iload_n X.1 X.2.1 dX9_prefer_51 rfl (lv_at hl 2 rfl) ?_
                refine lv_iload_n X.1 X.2.1 dX9_prefer_52 rfl (lv_at hl 3 rfl) ?_
                refine lv_iload X.1 X.2.1 dX9_prefer_53 (lv_at hl 4 rfl) ?_
                refine lv_iload X.1 X.2.1 dX9_prefer_55 (lv_at hl 7 rfl) ?_
                refine lv_iadd X.1 X.2.1 dX9_prefer_57 ?_
                refine cVJ [.int v1, .int v2, .int v3, .int (v4 + v7)] [] X hw hS (c_X9_clicked l G A M v1 v2 v3 (v4 + v7) (by omega) (by omega) (by omega)) (cwV 4 X.2.2.2.2 gX9_prefer_X9_clicked rfl rfl rfl (by decide +kernel) ⟨Nat.le_of_ble_eq_true rfl, Nat.le_of_ble_eq_true rfl⟩) (hw.recv (by decide) hm_MO rfl) rfl rfl hl.1 (Nat.le_of_ble_eq_true rfl) dX9_prefer_58 (fun H locs hw hS => ?_)
                refine tpb (fun p16 ep16 => ?_)
                rw [← ep16] at hw
                rw [← ep16]
                refine tni (fun x17 ex17 => ?_)
                refine lv_istore (lv' := [(8, .int x17), (0, .ref (G.2.2 0)), (1, .int v1), (2, .int v2), (3, .int v3), (4, .int v4), (5, .int v5), (6, .int v6), (7, .int v7)]) X.1 X.2.1 dX9_prefer_61 hl (by decide) rfl (fun ls hl => ?_)
                refine lv_iload X.1 X.2.1 dX9_prefer_63 (lv_at hl 7 rfl) ?_
                refine lv_iload X.1 X.2.1 dX9_prefer_65 (lv_at hl 0 rfl) ?_
                refine lv_bipush (v := 100) X.1 X.2.1 dX9_prefer_67 (by decide) ?_
                refine lv_irem X.1 X.2.1 dX9_prefer_69 (by first | decide | assumption | omega) ?_
                refine lv_iload X.1 X.2.1 dX9_prefer_70 (lv_at hl 0 rfl) ?_
                refine lv_bipush (v := 100) X.1 X.2.1 dX9_prefer_72 (by decide) ?_
                refine lv_idiv X.1 X.2.1 dX9_prefer_74 (by first | decide | assumption | omega) ?_
                refine bi_le (tgt := 82) X dX9_prefer_75 (by decide) (fun c18 => ?_) (fun c18 => ?_)
                · skip
                  have t19 : (x17 - x17 / 100 * 100).toInt ≤ (x17 / 100).toInt := i_le c18
                  refine lv_iload X.1 X.2.1 dX9_prefer_82 (lv_at hl 0 rfl) ?_
                  refine lv_bipush (v := 100) X.1 X.2.1 dX9_prefer_84 (by decide) ?_
                  refine lv_irem X.1 X.2.1 dX9_prefer_86 (by first | decide | assumption | omega) ?_
                  refine lv_iload X.1 X.2.1 dX9_prefer_87 (lv_at hl 0 rfl) ?_
                  refine lv_bipush (v := 100) X.1 X.2.1 dX9_prefer_89 (by decide) ?_
                  refine lv_idiv X.1 X.2.1 dX9_prefer_91 (by first | decide | assumption | omega) ?_
                  refine bi_ge (tgt := 100) X dX9_prefer_92 (by decide) (fun c20 => ?_) (fun c20 => ?_)
                  · skip
                    have t21 : (x17 / 100).toInt ≤ (x17 - x17 / 100 * 100).toInt := i_le c20
                    refine lv_iconst (v := 0) X.1 X.2.1 dX9_prefer_100 (by decide) ?_
                    refine lv_iadd X.1 X.2.1 dX9_prefer_101 ?_
                    refine tni (fun x22 ex22 => ?_)
                    refine lv_istore (lv' := [(6, .int x22), (8, .int x17), (0, .ref (G.2.2 0)), (1, .int v1), (2, .int v2), (3, .int v3), (4, .int v4), (5, .int v5), (7, .int v7)]) X.1 X.2.1 dX9_prefer_102 hl (by decide) rfl (fun ls hl => ?_)
                    refine lv_iinc (v := (v7 + 1)) (lv' := [(7, .int (v7 + 1)), (6, .int x22), (8, .int x17), (0, .ref (G.2.2 0)), (1, .int v1), (2, .int v2), (3, .int v3), (4, .int v4), (5, .int v5)]) X.1 X.2.1 dX9_prefer_104 hl (k := 8) rfl rfl (by decide) rfl (fun ls hl => ?_)
                    refine lv_goto (tgt := 42) X.1 X.2.1 dX9_prefer_107 (by decide) ?_
                    have q23 := inc_sp v7
                    exact ih1 p16.2 v1 v2 v3 v4 v5 x22 (v7 + 1) (by omega) (by omega) (by omega) (by omega) (by omega) _ _ hw hS ls (lv_sub hl [3, 4, 5, 6, 7, 8, 1, 0] rfl)
                  · skip
                    have t24 : (x17 - x17 / 100 * 100).toInt < (x17 / 100).toInt := i_nle c20
                    refine lv_bipush (v := 100) X.1 X.2.1 dX9_prefer_95 (by decide) ?_
                    refine lv_goto (tgt := 101) X.1 X.2.1 dX9_prefer_97 (by decide) ?_
                    refine lv_iadd X.1 X.2.1 dX9_prefer_101 ?_
                    refine tni (fun x25 ex25 => ?_)
                    refine lv_istore (lv' := [(6, .int x25), (8, .int x17), (0, .ref (G.2.2 0)), (1, .int v1), (2, .int v2), (3, .int v3), (4, .int v4), (5, .int v5), (7, .int v7)]) X.1 X.2.1 dX9_prefer_102 hl (by decide) rfl (fun ls hl => ?_)
                    refine lv_iinc (v := (v7 + 1)) (lv' := [(7, .int (v7 + 1)), (6, .int x25), (8, .int x17), (0, .ref (G.2.2 0)), (1, .int v1), (2, .int v2), (3, .int v3), (4, .int v4), (5, .int v5)]) X.1 X.2.1 dX9_prefer_104 hl (k := 8) rfl rfl (by decide) rfl (fun ls hl => ?_)
                    refine lv_goto (tgt := 42) X.1 X.2.1 dX9_prefer_107 (by decide) ?_
                    have q26 := inc_sp v7
                    exact ih1 p16.2 v1 v2 v3 v4 v5 x25 (v7 + 1) (by omega) (by omega) (by omega) (by omega) (by omega) _ _ hw hS ls (lv_sub hl [3, 4, 5, 6, 7, 8, 1, 0] rfl)
                · skip
                  have t27 : (x17 / 100).toInt < (x17 - x17 / 100 * 100).toInt := i_nle c18
                  refine lv_iconst (v := 1) X.1 X.2.1 dX9_prefer_78 (by decide) ?_
                  refine lv_goto (tgt := 101) X.1 X.2.1 dX9_prefer_79 (by decide) ?_
                  refine lv_iadd X.1 X.2.1 dX9_prefer_101 ?_
                  refine tni (fun x28 ex28 => ?_)
                  have q29 := inc_sp v6
                  rw [← ex28] at q29
                  refine lv_istore (lv' := [(6, .int x28), (8, .int x17), (0, .ref (G.2.2 0)), (1, .int v1), (2, .int v2), (3, .int v3), (4, .int v4), (5, .int v5), (7, .int v7)]) X.1 X.2.1 dX9_prefer_102 hl (by decide) rfl (fun ls hl => ?_)
                  refine lv_iinc (v := (v7 + 1)) (lv' := [(7, .int (v7 + 1)), (6, .int x28), (8, .int x17), (0, .ref (G.2.2 0)), (1, .int v1), (2, .int v2), (3, .int v3), (4, .int v4), (5, .int v5)]) X.1 X.2.1 dX9_prefer_104 hl (k := 8) rfl rfl (by decide) rfl (fun ls hl => ?_)
                  refine lv_goto (tgt := 42) X.1 X.2.1 dX9_prefer_107 (by decide) ?_
                  have q30 := inc_sp v7
                  exact ih1 p16.2 v1 v2 v3 v4 v5 x28 (v7 + 1) (by omega) (by omega) (by omega) (by omega) (by omega) _ _ hw hS ls (lv_sub hl [3, 4, 5, 6, 7, 8, 1, 0] rfl)
          exact L1 ((a5.toInt - 0 : Int).toNat + 1) M a1 a2 a3 a4 a5 0 0 (Nat.lt_succ_self _) (by first | omega | decide) (by first | omega | decide) (by first | omega | decide) (by first | omega | decide) _ _ hw hS ls (lv_sub hl [2, 3, 4, 5, 6, 7, 1, 0] rfl)
        · skip
          have t31 : 50 < a5.toInt := i_nle c11
          refine lv_bipush (v := (-2)) X.1 X.2.1 dX9_prefer_33 (by decide) ?_
          exact rQ X hr hlk hw hS dX9_prefer_35
    · skip
      have t32 : r5.toInt = 0 := i_eq c6
      refine lv_iconst (v := (-1)) X.1 X.2.1 dX9_prefer_18 (by decide) ?_
      exact rQ X hr hlk hw hS dX9_prefer_19
