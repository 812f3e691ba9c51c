/-! 19.simple -/
def f_X8_grade (M : Mem) (a1 : Int32) (a2 : Int32) (a3 : Int32) : Int32 × Mem := oc (f_X8_questionOf a1) ((-1), M) (fun o1 => bnd (f_X8_isDocument a2) (fun r2 => if r2 = 0 then ((-1), M) else (if a3 < (-1) then ((-2), M) else (if a3 ≤ 3 then (bnd (f_X6_gradeOf M o1 a2) (fun r10 => bnd (f_X6_judge M o1 a2 a3) (fun M11 => ((r10 + 10), M11)))) else ((-2), M)))))
set_option maxRecDepth 100000 in
set_option maxHeartbeats 4000000 in
theorem c_X8_grade (l : Launch) (G : En) (A : Nat → Prop) (M : Mem) (a1 : Int32) (a2 : Int32) (a3 : Int32) : WrI true l yX8_grade wsX8_grade ({ frames := 1, cells := 0, slots := 0, locals := 22 }) G A M [.ref (G.2.2 0), .int a1, .int a2, .int a3] (f_X8_grade M a1 a2 a3) := by
  refine WrI.of (cc := cX8_grade) (maxL := 6) (ret := (some .int)) (own := RX8) (by decide) rfl rfl (Nat.le_of_ble_eq_true rfl) ?_
  intro p e s m below meth c X hw hr hlk ls hl hS
  have hl : lv_has ls 6 [(0, .ref (G.2.2 0)), (1, .int a1), (2, .int a2), (3, .int a3)] := hl
  unfold f_X8_grade
  refine lv_aload_n X.1 X.2.1 dX8_grade_0 rfl (lv_at hl 0 rfl) ?_
  refine lv_iload_n X.1 X.2.1 dX8_grade_1 rfl (lv_at hl 1 rfl) ?_
  refine cVO [.int a1] [] X hw (c_X8_questionOf l G A M a1) (cwV 1 X.2.2.2.2 gX8_grade_X8_questionOf rfl rfl rfl (by decide +kernel) ⟨Nat.le_of_ble_eq_true rfl, Nat.le_of_ble_eq_true rfl⟩) (hw.recv (by decide) hk_RB rfl) rfl rfl hl.1 (Nat.le_of_ble_eq_true rfl) dX8_grade_2 ?_
  refine tno (fun eo1 => ?_) (fun o1 eo1 => ?_)
  · skip
    refine lv_astoreN (lv' := [(4, .null), (0, .ref (G.2.2 0)), (1, .int a1), (2, .int a2), (3, .int a3)]) X.1 X.2.1 dX8_grade_5 hl (by decide) rfl (fun ls hl => ?_)
    refine lv_aloadN X.1 X.2.1 dX8_grade_7 (lv_at hl 0 rfl) ?_
    refine lv_ifnullN (tgt := 19) X.1 X.2.1 dX8_grade_9 (by decide) ?_
    refine lv_iconst (v := (-1)) X.1 X.2.1 dX8_grade_19 (by decide) ?_
    exact rQ X hr hlk hw hS dX8_grade_20
  · skip
    have ho1 : 10 ≤ o1 ∧ o1 < 18 := b_X8_questionOf eo1
    refine lv_astore (lv' := [(4, .ref (G.2.2 o1)), (0, .ref (G.2.2 0)), (1, .int a1), (2, .int a2), (3, .int a3)]) X.1 X.2.1 dX8_grade_5 hl (by decide) rfl (fun ls hl => ?_)
    refine lv_aload X.1 X.2.1 dX8_grade_7 (lv_at hl 0 rfl) ?_
    refine lv_ifnull X.1 X.2.1 dX8_grade_9 ?_
    refine lv_iload_n X.1 X.2.1 dX8_grade_12 rfl (lv_at hl 3 rfl) ?_
    refine cSI [.int a2] [] X hw (c_X8_isDocument l G A M a2) (va_cwS 1 X.2.2.2.2 gX8_grade_X8_isDocument rfl rfl rfl (by decide +kernel) ⟨Nat.le_of_ble_eq_true rfl, Nat.le_of_ble_eq_true rfl⟩)  rfl rfl hl.1 (Nat.le_of_ble_eq_true rfl) dX8_grade_13 ?_
    refine tni (fun r2 er2 => ?_)
    refine bz_ne (tgt := 21) X dX8_grade_16 (by decide) (fun c3 => ?_) (fun c3 => ?_)
    · skip
      have t4 : ¬ r2.toInt = 0 := i_ne c3
      refine lv_iload_n X.1 X.2.1 dX8_grade_21 rfl (lv_at hl 4 rfl) ?_
      refine lv_iconst (v := (-1)) X.1 X.2.1 dX8_grade_22 (by decide) ?_
      refine bi_lt (tgt := 31) X dX8_grade_23 (by decide) (fun c5 => ?_) (fun c5 => ?_)
      · skip
        have t6 : a3.toInt < -1 := i_lt c5
        refine lv_bipush (v := (-2)) X.1 X.2.1 dX8_grade_31 (by decide) ?_
        exact rQ X hr hlk hw hS dX8_grade_33
      · skip
        have t7 : -1 ≤ a3.toInt := i_nlt c5
        refine lv_iload_n X.1 X.2.1 dX8_grade_26 rfl (lv_at hl 4 rfl) ?_
        refine lv_iconst (v := 3) X.1 X.2.1 dX8_grade_27 (by decide) ?_
        refine bi_le (tgt := 34) X dX8_grade_28 (by decide) (fun c8 => ?_) (fun c8 => ?_)
        · skip
          have t9 : a3.toInt ≤ 3 := i_le c8
          refine lv_aload X.1 X.2.1 dX8_grade_34 (lv_at hl 0 rfl) ?_
          refine lv_iload_n X.1 X.2.1 dX8_grade_36 rfl (lv_at hl 3 rfl) ?_
          refine cVI [.int a2] [] X hw (c_X6_gradeOf l G A M o1 ho1 a2) (cwV 1 X.2.2.2.2 gX8_grade_X6_gradeOf rfl rfl rfl (by decide +kernel) ⟨Nat.le_of_ble_eq_true rfl, Nat.le_of_ble_eq_true rfl⟩) (hw.recv (lt98 (by have h9 := ho1; omega)) (hk_Q ho1) rfl) rfl rfl hl.1 (Nat.le_of_ble_eq_true rfl) dX8_grade_37 ?_
          refine tni (fun r10 er10 => ?_)
          refine lv_istore (lv' := [(5, .int r10), (4, .ref (G.2.2 o1)), (0, .ref (G.2.2 0)), (1, .int a1), (2, .int a2), (3, .int a3)]) X.1 X.2.1 dX8_grade_40 hl (by decide) rfl (fun ls hl => ?_)
          refine lv_aload X.1 X.2.1 dX8_grade_42 (lv_at hl 1 rfl) ?_
          refine lv_iload_n X.1 X.2.1 dX8_grade_44 rfl (lv_at hl 4 rfl) ?_
          refine lv_iload_n X.1 X.2.1 dX8_grade_45 rfl (lv_at hl 5 rfl) ?_
          refine cVW [.int a2, .int a3] [] X hw hS (c_X6_judge l G A M o1 ho1 a2 a3) (cwV 2 X.2.2.2.2 gX8_grade_X6_judge rfl rfl rfl (by decide +kernel) ⟨Nat.le_of_ble_eq_true rfl, Nat.le_of_ble_eq_true rfl⟩) (hw.recv (lt98 (by have h9 := ho1; omega)) (hk_Q ho1) rfl) rfl rfl hl.1 (Nat.le_of_ble_eq_true rfl) dX8_grade_46 (fun H locs hw hS => ?_)
          refine tpb (fun M11 eM11 => ?_)
          rw [← eM11] at hw
          refine lv_iload X.1 X.2.1 dX8_grade_49 (lv_at hl 0 rfl) ?_
          refine lv_bipush (v := 10) X.1 X.2.1 dX8_grade_51 (by decide) ?_
          refine lv_iadd X.1 X.2.1 dX8_grade_53 ?_
          exact rQ X hr hlk hw hS dX8_grade_54
        · skip
          have t12 : 3 < a3.toInt := i_nle c8
          refine lv_bipush (v := (-2)) X.1 X.2.1 dX8_grade_31 (by decide) ?_
          exact rQ X hr hlk hw hS dX8_grade_33
    · skip
      have t13 : r2.toInt = 0 := i_eq c3
      refine lv_iconst (v := (-1)) X.1 X.2.1 dX8_grade_19 (by decide) ?_
      exact rQ X hr hlk hw hS dX8_grade_20

def f_X8_rank (M : Mem) (a1 : Int32) (a2 : Int32) (a3 : Int32) : Int32 × Mem := oc (f_X8_placeOf a1 a2) ((-1), M) (fun o1 => bnd (f_X8_isDocument a3) (fun r2 => if r2 = 0 then ((-1), M) else (bnd (f_X7_rankOf M o1 a3) (fun r5 => if r5 ≤ 0 then (bnd (f_X7_size M o1) (fun r8 => if r8 < 16 then (bnd (f_X7_append M o1 a3) (fun M11 => bnd (f_X7_size M11 o1) (fun r12 => (r12, M11)))) else ((-4), M))) else ((-3), M)))))
set_option maxRecDepth 100000 in
set_option maxHeartbeats 4000000 in
theorem c_X8_rank (l : Launch) (G : En) (A : Nat → Prop) (M : Mem) (a1 : Int32) (a2 : Int32) (a3 : Int32) : WrI true l yX8_rank wsX8_rank ({ frames := 2, cells := 0, slots := 0, locals := 44 }) G A M [.ref (G.2.2 0), .int a1, .int a2, .int a3] (f_X8_rank M a1 a2 a3) := by
  refine WrI.of (cc := cX8_rank) (maxL := 5) (ret := (some .int)) (own := RX8) (by decide) rfl rfl (Nat.le_of_ble_eq_true rfl) ?_
  intro p e s m below meth c X hw hr hlk ls hl hS
  have hl : lv_has ls 5 [(0, .ref (G.2.2 0)), (1, .int a1), (2, .int a2), (3, .int a3)] := hl
  unfold f_X8_rank
  refine lv_aload_n X.1 X.2.1 dX8_rank_0 rfl (lv_at hl 0 rfl) ?_
  refine lv_iload_n X.1 X.2.1 dX8_rank_1 rfl (lv_at hl 1 rfl) ?_
  refine lv_iload_n X.1 X.2.1 dX8_rank_2 rfl (lv_at hl 2 rfl) ?_
  refine cVO [.int a1, .int a2] [] X hw (c_X8_placeOf l G A M a1 a2) (cwV 2 X.2.2.2.2 gX8_rank_X8_placeOf rfl rfl rfl (by decide +kernel) ⟨Nat.le_of_ble_eq_true rfl, Nat.le_of_ble_eq_true rfl⟩) (hw.recv (by decide) hk_RB rfl) rfl rfl hl.1 (Nat.le_of_ble_eq_true rfl) dX8_rank_3 ?_
  refine tno (fun eo1 => ?_) (fun o1 eo1 => ?_)
  · skip
    refine lv_astoreN (lv' := [(4, .null), (0, .ref (G.2.2 0)), (1, .int a1), (2, .int a2), (3, .int a3)]) X.1 X.2.1 dX8_rank_6 hl (by decide) rfl (fun ls hl => ?_)
    refine lv_aloadN X.1 X.2.1 dX8_rank_8 (lv_at hl 0 rfl) ?_
    refine lv_ifnullN (tgt := 20) X.1 X.2.1 dX8_rank_10 (by decide) ?_
    refine lv_iconst (v := (-1)) X.1 X.2.1 dX8_rank_20 (by decide) ?_
    exact rQ X hr hlk hw hS dX8_rank_21
  · skip
    have ho1 : 34 ≤ o1 ∧ o1 < 66 := b_X8_placeOf eo1
    refine lv_astore (lv' := [(4, .ref (G.2.2 o1)), (0, .ref (G.2.2 0)), (1, .int a1), (2, .int a2), (3, .int a3)]) X.1 X.2.1 dX8_rank_6 hl (by decide) rfl (fun ls hl => ?_)
    refine lv_aload X.1 X.2.1 dX8_rank_8 (lv_at hl 0 rfl) ?_
    refine lv_ifnull X.1 X.2.1 dX8_rank_10 ?_
    refine lv_iload_n X.1 X.2.1 dX8_rank_13 rfl (lv_at hl 4 rfl) ?_
    refine cSI [.int a3] [] X hw (c_X8_isDocument l G A M a3) (va_cwS 1 X.2.2.2.2 gX8_rank_X8_isDocument rfl rfl rfl (by decide +kernel) ⟨Nat.le_of_ble_eq_true rfl, Nat.le_of_ble_eq_true rfl⟩)  rfl rfl hl.1 (Nat.le_of_ble_eq_true rfl) dX8_rank_14 ?_
    refine tni (fun r2 er2 => ?_)
    refine bz_ne (tgt := 22) X dX8_rank_17 (by decide) (fun c3 => ?_) (fun c3 => ?_)
    · skip
      have t4 : ¬ r2.toInt = 0 := i_ne c3
      refine lv_aload X.1 X.2.1 dX8_rank_22 (lv_at hl 0 rfl) ?_
      refine lv_iload_n X.1 X.2.1 dX8_rank_24 rfl (lv_at hl 4 rfl) ?_
      refine cVI [.int a3] [] X hw (c_X7_rankOf l G A M o1 ho1 a3) (cwV 1 X.2.2.2.2 gX8_rank_X7_rankOf rfl rfl rfl (by decide +kernel) ⟨Nat.le_of_ble_eq_true rfl, Nat.le_of_ble_eq_true rfl⟩) (hw.recv (lt98 (by have h9 := ho1; omega)) (hk_Row ho1) rfl) rfl rfl hl.1 (Nat.le_of_ble_eq_true rfl) dX8_rank_25 ?_
      refine tni (fun r5 er5 => ?_)
      refine bz_le (tgt := 34) X dX8_rank_28 (by decide) (fun c6 => ?_) (fun c6 => ?_)
      · skip
        have t7 : r5.toInt ≤ 0 := i_le c6
        refine lv_aload X.1 X.2.1 dX8_rank_34 (lv_at hl 0 rfl) ?_
        refine cVI [] [] X hw (c_X7_size l G A M o1 ho1) (cwV 0 X.2.2.2.2 gX8_rank_X7_size rfl rfl rfl (by decide +kernel) ⟨Nat.le_of_ble_eq_true rfl, Nat.le_of_ble_eq_true rfl⟩) (hw.recv (lt98 (by have h9 := ho1; omega)) (hk_Row ho1) rfl) rfl rfl hl.1 (Nat.le_of_ble_eq_true rfl) dX8_rank_36 ?_
        refine tni (fun r8 er8 => ?_)
        refine lv_bipush (v := 16) X.1 X.2.1 dX8_rank_39 (by decide) ?_
        refine bi_lt (tgt := 47) X dX8_rank_41 (by decide) (fun c9 => ?_) (fun c9 => ?_)
        · skip
          have t10 : r8.toInt < 16 := i_lt c9
          refine lv_aload X.1 X.2.1 dX8_rank_47 (lv_at hl 0 rfl) ?_
          refine lv_iload_n X.1 X.2.1 dX8_rank_49 rfl (lv_at hl 4 rfl) ?_
          refine cVW [.int a3] [] X hw hS (c_X7_append l G A M o1 ho1 a3) (cwV 1 X.2.2.2.2 gX8_rank_X7_append rfl rfl rfl (by decide +kernel) ⟨Nat.le_of_ble_eq_true rfl, Nat.le_of_ble_eq_true rfl⟩) (hw.recv (lt98 (by have h9 := ho1; omega)) (hk_Row ho1) rfl) rfl rfl hl.1 (Nat.le_of_ble_eq_true rfl) dX8_rank_50 (fun H locs hw hS => ?_)
          refine tpb (fun M11 eM11 => ?_)
          rw [← eM11] at hw
          refine lv_aload X.1 X.2.1 dX8_rank_53 (lv_at hl 0 rfl) ?_
          refine cVI [] [] X hw (c_X7_size l G A M11 o1 ho1) (cwV 0 X.2.2.2.2 gX8_rank_X7_size rfl rfl rfl (by decide +kernel) ⟨Nat.le_of_ble_eq_true rfl, Nat.le_of_ble_eq_true rfl⟩) (hw.recv (lt98 (by have h9 := ho1; omega)) (hk_Row ho1) rfl) rfl rfl hl.1 (Nat.le_of_ble_eq_true rfl) dX8_rank_55 ?_
          refine tni (fun r12 er12 => ?_)
          exact rQ X hr hlk hw hS dX8_rank_58
        · skip
          have t13 : 16 ≤ r8.toInt := i_nlt c9
          refine lv_bipush (v := (-4)) X.1 X.2.1 dX8_rank_44 (by decide) ?_
          exact rQ X hr hlk hw hS dX8_rank_46
      · skip
        have t14 : 0 < r5.toInt := i_nle c6
        refine lv_bipush (v := (-3)) X.1 X.2.1 dX8_rank_31 (by decide) ?_
        exact rQ X hr hlk hw hS dX8_rank_33
    · skip
      have t15 : r2.toInt = 0 := i_eq c3
      refine lv_iconst (v := (-1)) X.1 X.2.1 dX8_rank_20 (by decide) ?_
      exact rQ X hr hlk hw hS dX8_rank_21

def f_X8_empty (M : Mem) (a1 : Int32) (a2 : Int32) : Int32 × Mem := oc (f_X8_placeOf a1 a2) ((-1), M) (fun o1 => bnd (f_X7_size M o1) (fun r2 => bnd (f_X7_clear M o1 1) (fun M3 => (r2, M3))))
set_option maxRecDepth 100000 in
set_option maxHeartbeats 4000000 in
theorem c_X8_empty (l : Launch) (G : En) (A : Nat → Prop) (M : Mem) (a1 : Int32) (a2 : Int32) : WrI true l yX8_empty wsX8_empty ({ frames := 2, cells := 0, slots := 0, locals := 44 }) G A M [.ref (G.2.2 0), .int a1, .int a2] (f_X8_empty M a1 a2) := by
  refine WrI.of (cc := cX8_empty) (maxL := 5) (ret := (some .int)) (own := RX8) (by decide) rfl rfl (Nat.le_of_ble_eq_true rfl) ?_
  intro p e s m below meth c X hw hr hlk ls hl hS
  have hl : lv_has ls 5 [(0, .ref (G.2.2 0)), (1, .int a1), (2, .int a2)] := hl
  unfold f_X8_empty
  refine lv_aload_n X.1 X.2.1 dX8_empty_0 rfl (lv_at hl 0 rfl) ?_
  refine lv_iload_n X.1 X.2.1 dX8_empty_1 rfl (lv_at hl 1 rfl) ?_
  refine lv_iload_n X.1 X.2.1 dX8_empty_2 rfl (lv_at hl 2 rfl) ?_
  refine cVO [.int a1, .int a2] [] X hw (c_X8_placeOf l G A M a1 a2) (cwV 2 X.2.2.2.2 gX8_empty_X8_placeOf rfl rfl rfl (by decide +kernel) ⟨Nat.le_of_ble_eq_true rfl, Nat.le_of_ble_eq_true rfl⟩) (hw.recv (by decide) hk_RB rfl) rfl rfl hl.1 (Nat.le_of_ble_eq_true rfl) dX8_empty_3 ?_
  refine tno (fun eo1 => ?_) (fun o1 eo1 => ?_)
  · skip
    refine lv_astore_nN (lv' := [(3, .null), (0, .ref (G.2.2 0)), (1, .int a1), (2, .int a2)]) X.1 X.2.1 dX8_empty_6 rfl hl (by decide) rfl (fun ls hl => ?_)
    refine lv_aload_nN X.1 X.2.1 dX8_empty_7 rfl (lv_at hl 0 rfl) ?_
    refine lv_ifnonnullN X.1 X.2.1 dX8_empty_8 ?_
    refine lv_iconst (v := (-1)) X.1 X.2.1 dX8_empty_11 (by decide) ?_
    exact rQ X hr hlk hw hS dX8_empty_12
  · skip
    have ho1 : 34 ≤ o1 ∧ o1 < 66 := b_X8_placeOf eo1
    refine lv_astore_n (lv' := [(3, .ref (G.2.2 o1)), (0, .ref (G.2.2 0)), (1, .int a1), (2, .int a2)]) X.1 X.2.1 dX8_empty_6 rfl hl (by decide) rfl (fun ls hl => ?_)
    refine lv_aload_n X.1 X.2.1 dX8_empty_7 rfl (lv_at hl 0 rfl) ?_
    refine lv_ifnonnull (tgt := 13) X.1 X.2.1 dX8_empty_8 (by decide) ?_
    refine lv_aload_n X.1 X.2.1 dX8_empty_13 rfl (lv_at hl 0 rfl) ?_
    refine cVI [] [] X hw (c_X7_size l G A M o1 ho1) (cwV 0 X.2.2.2.2 gX8_empty_X7_size rfl rfl rfl (by decide +kernel) ⟨Nat.le_of_ble_eq_true rfl, Nat.le_of_ble_eq_true rfl⟩) (hw.recv (lt98 (by have h9 := ho1; omega)) (hk_Row ho1) rfl) rfl rfl hl.1 (Nat.le_of_ble_eq_true rfl) dX8_empty_14 ?_
    refine tni (fun r2 er2 => ?_)
    refine lv_istore (lv' := [(4, .int r2), (3, .ref (G.2.2 o1)), (0, .ref (G.2.2 0)), (1, .int a1), (2, .int a2)]) X.1 X.2.1 dX8_empty_17 hl (by decide) rfl (fun ls hl => ?_)
    refine lv_aload_n X.1 X.2.1 dX8_empty_19 rfl (lv_at hl 1 rfl) ?_
    refine lv_iconst (v := 1) X.1 X.2.1 dX8_empty_20 (by decide) ?_
    refine cVW [.int 1] [] X hw hS (c_X7_clear l G A M o1 ho1 1 (Or.inr rfl)) (cwV 1 X.2.2.2.2 gX8_empty_X7_clear rfl rfl rfl (by decide +kernel) ⟨Nat.le_of_ble_eq_true rfl, Nat.le_of_ble_eq_true rfl⟩) (hw.recv (lt98 (by have h9 := ho1; omega)) (hk_Row ho1) rfl) rfl rfl hl.1 (Nat.le_of_ble_eq_true rfl) dX8_empty_21 (fun H locs hw hS => ?_)
    refine tpb (fun M3 eM3 => ?_)
    rw [← eM3] at hw
    refine lv_iload X.1 X.2.1 dX8_empty_24 (lv_at hl 0 rfl) ?_
    exact rQ X hr hlk hw hS dX8_empty_26

def f_X8_drop (M : Mem) (a1 : Int32) (a2 : Int32) : Int32 × Mem := oc (f_X8_rowOf M a1 a2) ((-1), M) (fun o1 => bnd (f_X7_clear M o1 0) (fun M2 => (1, M2)))
set_option maxRecDepth 100000 in
set_option maxHeartbeats 4000000 in
theorem c_X8_drop (l : Launch) (G : En) (A : Nat → Prop) (M : Mem) (a1 : Int32) (a2 : Int32) : WrI true l yX8_drop wsX8_drop ({ frames := 3, cells := 0, slots := 0, locals := 67 }) G A M [.ref (G.2.2 0), .int a1, .int a2] (f_X8_drop M a1 a2) := by
  refine WrI.of (cc := cX8_drop) (maxL := 4) (ret := (some .int)) (own := RX8) (by decide) rfl rfl (Nat.le_of_ble_eq_true rfl) ?_
  intro p e s m below meth c X hw hr hlk ls hl hS
  have hl : lv_has ls 4 [(0, .ref (G.2.2 0)), (1, .int a1), (2, .int a2)] := hl
  unfold f_X8_drop
  refine lv_aload_n X.1 X.2.1 dX8_drop_0 rfl (lv_at hl 0 rfl) ?_
  refine lv_iload_n X.1 X.2.1 dX8_drop_1 rfl (lv_at hl 1 rfl) ?_
  refine lv_iload_n X.1 X.2.1 dX8_drop_2 rfl (lv_at hl 2 rfl) ?_
  refine cVO [.int a1, .int a2] [] X hw (c_X8_rowOf l G A M a1 a2) (cwV 2 X.2.2.2.2 gX8_drop_X8_rowOf rfl rfl rfl (by decide +kernel) ⟨Nat.le_of_ble_eq_true rfl, Nat.le_of_ble_eq_true rfl⟩) (hw.recv (by decide) hk_RB rfl) rfl rfl hl.1 (Nat.le_of_ble_eq_true rfl) dX8_drop_3 ?_
  refine tno (fun eo1 => ?_) (fun o1 eo1 => ?_)
  · skip
    refine lv_astore_nN (lv' := [(3, .null), (0, .ref (G.2.2 0)), (1, .int a1), (2, .int a2)]) X.1 X.2.1 dX8_drop_6 rfl hl (by decide) rfl (fun ls hl => ?_)
    refine lv_aload_nN X.1 X.2.1 dX8_drop_7 rfl (lv_at hl 0 rfl) ?_
    refine lv_ifnonnullN X.1 X.2.1 dX8_drop_8 ?_
    refine lv_iconst (v := (-1)) X.1 X.2.1 dX8_drop_11 (by decide) ?_
    exact rQ X hr hlk hw hS dX8_drop_12
  · skip
    have ho1 : 34 ≤ o1 ∧ o1 < 66 := b_X8_rowOf eo1
    refine lv_astore_n (lv' := [(3, .ref (G.2.2 o1)), (0, .ref (G.2.2 0)), (1, .int a1), (2, .int a2)]) X.1 X.2.1 dX8_drop_6 rfl hl (by decide) rfl (fun ls hl => ?_)
    refine lv_aload_n X.1 X.2.1 dX8_drop_7 rfl (lv_at hl 0 rfl) ?_
    refine lv_ifnonnull (tgt := 13) X.1 X.2.1 dX8_drop_8 (by decide) ?_
    refine lv_aload_n X.1 X.2.1 dX8_drop_13 rfl (lv_at hl 0 rfl) ?_
    refine lv_iconst (v := 0) X.1 X.2.1 dX8_drop_14 (by decide) ?_
    refine cVW [.int 0] [] X hw hS (c_X7_clear l G A M o1 ho1 0 (Or.inl rfl)) (cwV 1 X.2.2.2.2 gX8_drop_X7_clear rfl rfl rfl (by decide +kernel) ⟨Nat.le_of_ble_eq_true rfl, Nat.le_of_ble_eq_true rfl⟩) (hw.recv (lt98 (by have h9 := ho1; omega)) (hk_Row ho1) rfl) rfl rfl hl.1 (Nat.le_of_ble_eq_true rfl) dX8_drop_15 (fun H locs hw hS => ?_)
    refine tpb (fun M2 eM2 => ?_)
    rw [← eM2] at hw
    refine lv_iconst (v := 1) X.1 X.2.1 dX8_drop_18 (by decide) ?_
    exact rQ X hr hlk hw hS dX8_drop_19

def f_X8_at (M : Mem) (a1 : Int32) (a2 : Int32) (a3 : Int32) : Int32 := oc (f_X8_rowOf M a1 a2) (-1) (fun o1 => bnd (f_X7_documentAt M o1 a3) (fun r2 => if r2 = (-1) then (-2) else r2))
set_option maxRecDepth 100000 in
set_option maxHeartbeats 4000000 in
theorem c_X8_at (l : Launch) (G : En) (A : Nat → Prop) (M : Mem) (a1 : Int32) (a2 : Int32) (a3 : Int32) : RdI true l yX8_at wsX8_at ({ frames := 3, cells := 0, slots := 0, locals := 67 }) G A M [.ref (G.2.2 0), .int a1, .int a2, .int a3] (f_X8_at M a1 a2 a3) := by
  refine RdI.of (cc := cX8_at) (maxL := 6) (ret := (some .int)) (own := RX8) (by decide) rfl rfl (Nat.le_of_ble_eq_true rfl) ?_
  intro p e s m below meth c X hw hr hlk ls hl
  have hl : lv_has ls 6 [(0, .ref (G.2.2 0)), (1, .int a1), (2, .int a2), (3, .int a3)] := hl
  unfold f_X8_at
  refine lv_aload_n X.1 X.2.1 dX8_at_0 rfl (lv_at hl 0 rfl) ?_
  refine lv_iload_n X.1 X.2.1 dX8_at_1 rfl (lv_at hl 1 rfl) ?_
  refine lv_iload_n X.1 X.2.1 dX8_at_2 rfl (lv_at hl 2 rfl) ?_
  refine cVO [.int a1, .int a2] [] X hw (c_X8_rowOf l G A M a1 a2) (cwV 2 X.2.2.2.2 gX8_at_X8_rowOf rfl rfl rfl (by decide +kernel) ⟨Nat.le_of_ble_eq_true rfl, Nat.le_of_ble_eq_true rfl⟩) (hw.recv (by decide) hk_RB rfl) rfl rfl hl.1 (Nat.le_of_ble_eq_true rfl) dX8_at_3 ?_
  refine tno (fun eo1 => ?_) (fun o1 eo1 => ?_)
  · skip
    refine lv_astoreN (lv' := [(4, .null), (0, .ref (G.2.2 0)), (1, .int a1), (2, .int a2), (3, .int a3)]) X.1 X.2.1 dX8_at_6 hl (by decide) rfl (fun ls hl => ?_)
    refine lv_aloadN X.1 X.2.1 dX8_at_8 (lv_at hl 0 rfl) ?_
    refine lv_ifnonnullN X.1 X.2.1 dX8_at_10 ?_
    refine lv_iconst (v := (-1)) X.1 X.2.1 dX8_at_13 (by decide) ?_
    exact rI X hr hlk dX8_at_14
  · skip
    have ho1 : 34 ≤ o1 ∧ o1 < 66 := b_X8_rowOf eo1
    refine lv_astore (lv' := [(4, .ref (G.2.2 o1)), (0, .ref (G.2.2 0)), (1, .int a1), (2, .int a2), (3, .int a3)]) X.1 X.2.1 dX8_at_6 hl (by decide) rfl (fun ls hl => ?_)
    refine lv_aload X.1 X.2.1 dX8_at_8 (lv_at hl 0 rfl) ?_
    refine lv_ifnonnull (tgt := 15) X.1 X.2.1 dX8_at_10 (by decide) ?_
    refine lv_aload X.1 X.2.1 dX8_at_15 (lv_at hl 0 rfl) ?_
    refine lv_iload_n X.1 X.2.1 dX8_at_17 rfl (lv_at hl 4 rfl) ?_
    refine cVI [.int a3] [] X hw (c_X7_documentAt l G A M o1 ho1 a3) (cwV 1 X.2.2.2.2 gX8_at_X7_documentAt rfl rfl rfl (by decide +kernel) ⟨Nat.le_of_ble_eq_true rfl, Nat.le_of_ble_eq_true rfl⟩) (hw.recv (lt98 (by have h9 := ho1; omega)) (hk_Row ho1) rfl) rfl rfl hl.1 (Nat.le_of_ble_eq_true rfl) dX8_at_18 ?_
    refine tni (fun r2 er2 => ?_)
    refine lv_istore (lv' := [(5, .int r2), (4, .ref (G.2.2 o1)), (0, .ref (G.2.2 0)), (1, .int a1), (2, .int a2), (3, .int a3)]) X.1 X.2.1 dX8_at_21 hl (by decide) rfl (fun ls hl => ?_)
    refine lv_iload X.1 X.2.1 dX8_at_23 (lv_at hl 0 rfl) ?_
    refine lv_iconst (v := (-1)) X.1 X.2.1 dX8_at_25 (by decide) ?_
    refine bi_ne (tgt := 34) X dX8_at_26 (by decide) (fun c3 => ?_) (fun c3 => ?_)
    · skip
      have t4 : ¬ r2.toInt = -1 := i_ne c3
      refine lv_iload X.1 X.2.1 dX8_at_34 (lv_at hl 0 rfl) ?_
      exact rI X hr hlk dX8_at_36
    · skip
      have t5 : r2.toInt = -1 := i_eq c3
      refine lv_bipush (v := (-2)) X.1 X.2.1 dX8_at_29 (by decide) ?_
      refine lv_goto (tgt := 36) X.1 X.2.1 dX8_at_31 (by decide) ?_
      exact rI X hr hlk dX8_at_36

def f_X8_count (M : Mem) (a1 : Int32) (a2 : Int32) : Int32 := oc (f_X8_questionOf a1) (-1) (fun o1 => if a2 = 0 then (bnd (f_X6_goodOnes M o1) (fun r3 => r3)) else (if a2 = 1 then (bnd (f_X6_gradedWith M o1 0) (fun r5 => r5)) else (if a2 = 2 then (bnd (f_X6_toldRows M o1) (fun r7 => r7)) else (-2))))
set_option maxRecDepth 100000 in
set_option maxHeartbeats 4000000 in
theorem c_X8_count (l : Launch) (G : En) (A : Nat → Prop) (M : Mem) (a1 : Int32) (a2 : Int32) : RdI true l yX8_count wsX8_count ({ frames := 2, cells := 0, slots := 0, locals := 43 }) G A M [.ref (G.2.2 0), .int a1, .int a2] (f_X8_count M a1 a2) := by
  refine RdI.of (cc := cX8_count) (maxL := 4) (ret := (some .int)) (own := RX8) (by decide) rfl rfl (Nat.le_of_ble_eq_true rfl) ?_
  intro p e s m below meth c X hw hr hlk ls hl
  have hl : lv_has ls 4 [(0, .ref (G.2.2 0)), (1, .int a1), (2, .int a2)] := hl
  unfold f_X8_count
  refine lv_aload_n X.1 X.2.1 dX8_count_0 rfl (lv_at hl 0 rfl) ?_
  refine lv_iload_n X.1 X.2.1 dX8_count_1 rfl (lv_at hl 1 rfl) ?_
  refine cVO [.int a1] [] X hw (c_X8_questionOf l G A M a1) (cwV 1 X.2.2.2.2 gX8_count_X8_questionOf rfl rfl rfl (by decide +kernel) ⟨Nat.le_of_ble_eq_true rfl, Nat.le_of_ble_eq_true rfl⟩) (hw.recv (by decide) hk_RB rfl) rfl rfl hl.1 (Nat.le_of_ble_eq_true rfl) dX8_count_2 ?_
  refine tno (fun eo1 => ?_) (fun o1 eo1 => ?_)
  · skip
    refine lv_astore_nN (lv' := [(3, .null), (0, .ref (G.2.2 0)), (1, .int a1), (2, .int a2)]) X.1 X.2.1 dX8_count_5 rfl hl (by decide) rfl (fun ls hl => ?_)
    refine lv_aload_nN X.1 X.2.1 dX8_count_6 rfl (lv_at hl 0 rfl) ?_
    refine lv_ifnonnullN X.1 X.2.1 dX8_count_7 ?_
    refine lv_iconst (v := (-1)) X.1 X.2.1 dX8_count_10 (by decide) ?_
    exact rI X hr hlk dX8_count_11
  · skip
    have ho1 : 10 ≤ o1 ∧ o1 < 18 := b_X8_questionOf eo1
    refine lv_astore_n (lv' := [(3, .ref (G.2.2 o1)), (0, .ref (G.2.2 0)), (1, .int a1), (2, .int a2)]) X.1 X.2.1 dX8_count_5 rfl hl (by decide) rfl (fun ls hl => ?_)
    refine lv_aload_n X.1 X.2.1 dX8_count_6 rfl (lv_at hl 0 rfl) ?_
    refine lv_ifnonnull (tgt := 12) X.1 X.2.1 dX8_count_7 (by decide) ?_
    refine lv_iload_n X.1 X.2.1 dX8_count_12 rfl (lv_at hl 3 rfl) ?_
    by_cases c2 : a2 = 0
    · refine tpp c2 ?_
      refine lv_tableIn (tgt := 40) X.1 X.2.1 dX8_count_13 (by rw [c2]; decide) (by rw [c2]; decide) (off := 27) (by rw [c2]; decide) (by decide) ?_
      refine lv_aload_n X.1 X.2.1 dX8_count_40 rfl (lv_at hl 0 rfl) ?_
      refine cVI [] [] X hw (c_X6_goodOnes l G A M o1 ho1) (cwV 0 X.2.2.2.2 gX8_count_X6_goodOnes rfl rfl rfl (by decide +kernel) ⟨Nat.le_of_ble_eq_true rfl, Nat.le_of_ble_eq_true rfl⟩) (hw.recv (lt98 (by have h9 := ho1; omega)) (hk_Q ho1) rfl) rfl rfl hl.1 (Nat.le_of_ble_eq_true rfl) dX8_count_41 ?_
      refine tni (fun r3 er3 => ?_)
      exact rI X hr hlk dX8_count_44
    refine tpn c2 ?_
    by_cases c4 : a2 = 1
    · refine tpp c4 ?_
      refine lv_tableIn (tgt := 45) X.1 X.2.1 dX8_count_13 (by rw [c4]; decide) (by rw [c4]; decide) (off := 32) (by rw [c4]; decide) (by decide) ?_
      refine lv_aload_n X.1 X.2.1 dX8_count_45 rfl (lv_at hl 0 rfl) ?_
      refine lv_iconst (v := 0) X.1 X.2.1 dX8_count_46 (by decide) ?_
      refine cVI [.int 0] [] X hw (c_X6_gradedWith l G A M o1 ho1 0) (cwV 1 X.2.2.2.2 gX8_count_X6_gradedWith rfl rfl rfl (by decide +kernel) ⟨Nat.le_of_ble_eq_true rfl, Nat.le_of_ble_eq_true rfl⟩) (hw.recv (lt98 (by have h9 := ho1; omega)) (hk_Q ho1) rfl) rfl rfl hl.1 (Nat.le_of_ble_eq_true rfl) dX8_count_47 ?_
      refine tni (fun r5 er5 => ?_)
      exact rI X hr hlk dX8_count_50
    refine tpn c4 ?_
    by_cases c6 : a2 = 2
    · refine tpp c6 ?_
      refine lv_tableIn (tgt := 51) X.1 X.2.1 dX8_count_13 (by rw [c6]; decide) (by rw [c6]; decide) (off := 38) (by rw [c6]; decide) (by decide) ?_
      refine lv_aload_n X.1 X.2.1 dX8_count_51 rfl (lv_at hl 0 rfl) ?_
      refine cVI [] [] X hw (c_X6_toldRows l G A M o1 ho1) (cwV 0 X.2.2.2.2 gX8_count_X6_toldRows rfl rfl rfl (by decide +kernel) ⟨Nat.le_of_ble_eq_true rfl, Nat.le_of_ble_eq_true rfl⟩) (hw.recv (lt98 (by have h9 := ho1; omega)) (hk_Q ho1) rfl) rfl rfl hl.1 (Nat.le_of_ble_eq_true rfl) dX8_count_52 ?_
      refine tni (fun r7 er7 => ?_)
      exact rI X hr hlk dX8_count_55
    refine tpn c6 ?_
    refine lv_tableOut (tgt := 56) X.1 X.2.1 dX8_count_13 (by have z0 := i_ne c2; have z0 : ¬ a2.toInt = 0 := z0; have z1 := i_ne c4; have z1 : ¬ a2.toInt = 1 := z1; have z2 := i_ne c6; have z2 : ¬ a2.toInt = 2 := z2; omega) (by decide) ?_
    refine lv_bipush (v := (-2)) X.1 X.2.1 dX8_count_56 (by decide) ?_
    exact rI X hr hlk dX8_count_58

def f_X8_top (M : Mem) : Int64 := bnd (f_X1_above M 2) (fun r1 => r1)
set_option maxRecDepth 100000 in
set_option maxHeartbeats 4000000 in
theorem c_X8_top (l : Launch) (G : En) (A : Nat → Prop) (M : Mem)  : RdL true l yX8_top wsX8_top ({ frames := 1, cells := 0, slots := 0, locals := 20 }) G A M [.ref (G.2.2 0)] (f_X8_top M) := by
  refine RdL.of (cc := cX8_top) (maxL := 1) (ret := (some .long)) (own := RX8) (by decide) rfl rfl (Nat.le_of_ble_eq_true rfl) ?_
  intro p e s m below meth c X hw hr hlk ls hl
  have hl : lv_has ls 1 [(0, .ref (G.2.2 0))] := hl
  unfold f_X8_top
  refine lv_aload_n X.1 X.2.1 dX8_top_0 rfl (lv_at hl 0 rfl) ?_
  refine gF X hw (by decide) hk_RB rfl (by decide +kernel) 1 (by decide) (ref := "RankBench") rfl (by decide +kernel) rfl dX8_top_1 ?_
  refine cVL [] [] X hw (c_X1_above l G A M 2 (by decide : 2 ≤ 2 ∧ 2 < 5)) (cwV 0 X.2.2.2.2 gX8_top_X1_above rfl rfl rfl (by decide +kernel) ⟨Nat.le_of_ble_eq_true rfl, Nat.le_of_ble_eq_true rfl⟩) (hw.recv (lt98 (by have h9 := (by decide : 2 ≤ 2 ∧ 2 < 5); omega)) (hk_Fr (by decide : 2 ≤ 2 ∧ 2 < 5)) rfl) rfl rfl hl.1 (Nat.le_of_ble_eq_true rfl) dX8_top_4 ?_
  refine tnl (fun r1 er1 => ?_)
  exact rL X hr hlk dX8_top_7

def f_X8_bottom (M : Mem) : Int64 := bnd (f_X1_below M 2) (fun r1 => r1)
set_option maxRecDepth 100000 in
set_option maxHeartbeats 4000000 in
theorem c_X8_bottom (l : Launch) (G : En) (A : Nat → Prop) (M : Mem)  : RdL true l yX8_bottom wsX8_bottom ({ frames := 1, cells := 0, slots := 0, locals := 20 }) G A M [.ref (G.2.2 0)] (f_X8_bottom M) := by
  refine RdL.of (cc := cX8_bottom) (maxL := 1) (ret := (some .long)) (own := RX8) (by decide) rfl rfl (Nat.le_of_ble_eq_true rfl) ?_
  intro p e s m below meth c X hw hr hlk ls hl
  have hl : lv_has ls 1 [(0, .ref (G.2.2 0))] := hl
  unfold f_X8_bottom
  refine lv_aload_n X.1 X.2.1 dX8_bottom_0 rfl (lv_at hl 0 rfl) ?_
  refine gF X hw (by decide) hk_RB rfl (by decide +kernel) 1 (by decide) (ref := "RankBench") rfl (by decide +kernel) rfl dX8_bottom_1 ?_
  refine cVL [] [] X hw (c_X1_below l G A M 2 (by decide : 2 ≤ 2 ∧ 2 < 5)) (cwV 0 X.2.2.2.2 gX8_bottom_X1_below rfl rfl rfl (by decide +kernel) ⟨Nat.le_of_ble_eq_true rfl, Nat.le_of_ble_eq_true rfl⟩) (hw.recv (lt98 (by have h9 := (by decide : 2 ≤ 2 ∧ 2 < 5); omega)) (hk_Fr (by decide : 2 ≤ 2 ∧ 2 < 5)) rfl) rfl rfl hl.1 (Nat.le_of_ble_eq_true rfl) dX8_bottom_4 ?_
  refine tnl (fun r1 er1 => ?_)
  exact rL X hr hlk dX8_bottom_7

def f_X8_pool (M : Mem) (a1 : Int32) (a2 : Int32) (a3 : Int32) : Int32 := oc (f_X8_questionOf a1) (-1) (fun o1 => bnd (f_X8_isDepth a2) (fun r2 => if r2 = 0 then (-2) else (bnd (f_X6_pooled M o1 a2 a3) (fun r5 => if r5 = (-1) then (-3) else r5))))
set_option maxRecDepth 100000 in
set_option maxHeartbeats 4000000 in
theorem c_X8_pool (l : Launch) (G : En) (A : Nat → Prop) (M : Mem) (a1 : Int32) (a2 : Int32) (a3 : Int32) : RdI true l yX8_pool wsX8_pool ({ frames := 4, cells := 0, slots := 0, locals := 93 }) G A M [.ref (G.2.2 0), .int a1, .int a2, .int a3] (f_X8_pool M a1 a2 a3) := by
  refine RdI.of (cc := cX8_pool) (maxL := 6) (ret := (some .int)) (own := RX8) (by decide) rfl rfl (Nat.le_of_ble_eq_true rfl) ?_
  intro p e s m below meth c X hw hr hlk ls hl
  have hl : lv_has ls 6 [(0, .ref (G.2.2 0)), (1, .int a1), (2, .int a2), (3, .int a3)] := hl
  unfold f_X8_pool
  refine lv_aload_n X.1 X.2.1 dX8_pool_0 rfl (lv_at hl 0 rfl) ?_
  refine lv_iload_n X.1 X.2.1 dX8_pool_1 rfl (lv_at hl 1 rfl) ?_
  refine cVO [.int a1] [] X hw (c_X8_questionOf l G A M a1) (cwV 1 X.2.2.2.2 gX8_pool_X8_questionOf rfl rfl rfl (by decide +kernel) ⟨Nat.le_of_ble_eq_true rfl, Nat.le_of_ble_eq_true rfl⟩) (hw.recv (by decide) hk_RB rfl) rfl rfl hl.1 (Nat.le_of_ble_eq_true rfl) dX8_pool_2 ?_
  refine tno (fun eo1 => ?_) (fun o1 eo1 => ?_)
  · skip
    refine lv_astoreN (lv' := [(4, .null), (0, .ref (G.2.2 0)), (1, .int a1), (2, .int a2), (3, .int a3)]) X.1 X.2.1 dX8_pool_5 hl (by decide) rfl (fun ls hl => ?_)
    refine lv_aloadN X.1 X.2.1 dX8_pool_7 (lv_at hl 0 rfl) ?_
    refine lv_ifnonnullN X.1 X.2.1 dX8_pool_9 ?_
    refine lv_iconst (v := (-1)) X.1 X.2.1 dX8_pool_12 (by decide) ?_
    exact rI X hr hlk dX8_pool_13
  · skip
    have ho1 : 10 ≤ o1 ∧ o1 < 18 := b_X8_questionOf eo1
    refine lv_astore (lv' := [(4, .ref (G.2.2 o1)), (0, .ref (G.2.2 0)), (1, .int a1), (2, .int a2), (3, .int a3)]) X.1 X.2.1 dX8_pool_5 hl (by decide) rfl (fun ls hl => ?_)
    refine lv_aload X.1 X.2.1 dX8_pool_7 (lv_at hl 0 rfl) ?_
    refine lv_ifnonnull (tgt := 14) X.1 X.2.1 dX8_pool_9 (by decide) ?_
    refine lv_iload_n X.1 X.2.1 dX8_pool_14 rfl (lv_at hl 3 rfl) ?_
    refine cSI [.int a2] [] X hw (c_X8_isDepth l G A M a2) (va_cwS 1 X.2.2.2.2 gX8_pool_X8_isDepth rfl rfl rfl (by decide +kernel) ⟨Nat.le_of_ble_eq_true rfl, Nat.le_of_ble_eq_true rfl⟩)  rfl rfl hl.1 (Nat.le_of_ble_eq_true rfl) dX8_pool_15 ?_
    refine tni (fun r2 er2 => ?_)
    refine bz_ne (tgt := 24) X dX8_pool_18 (by decide) (fun c3 => ?_) (fun c3 => ?_)
    · skip
      have t4 : ¬ r2.toInt = 0 := i_ne c3
      refine lv_aload X.1 X.2.1 dX8_pool_24 (lv_at hl 0 rfl) ?_
      refine lv_iload_n X.1 X.2.1 dX8_pool_26 rfl (lv_at hl 3 rfl) ?_
      refine lv_iload_n X.1 X.2.1 dX8_pool_27 rfl (lv_at hl 4 rfl) ?_
      refine cVI [.int a2, .int a3] [] X hw (c_X6_pooled l G A M o1 ho1 a2 a3) (cwV 2 X.2.2.2.2 gX8_pool_X6_pooled rfl rfl rfl (by decide +kernel) ⟨Nat.le_of_ble_eq_true rfl, Nat.le_of_ble_eq_true rfl⟩) (hw.recv (lt98 (by have h9 := ho1; omega)) (hk_Q ho1) rfl) rfl rfl hl.1 (Nat.le_of_ble_eq_true rfl) dX8_pool_28 ?_
      refine tni (fun r5 er5 => ?_)
      refine lv_istore (lv' := [(5, .int r5), (4, .ref (G.2.2 o1)), (0, .ref (G.2.2 0)), (1, .int a1), (2, .int a2), (3, .int a3)]) X.1 X.2.1 dX8_pool_31 hl (by decide) rfl (fun ls hl => ?_)
      refine lv_iload X.1 X.2.1 dX8_pool_33 (lv_at hl 0 rfl) ?_
      refine lv_iconst (v := (-1)) X.1 X.2.1 dX8_pool_35 (by decide) ?_
      refine bi_ne (tgt := 44) X dX8_pool_36 (by decide) (fun c6 => ?_) (fun c6 => ?_)
      · skip
        have t7 : ¬ r5.toInt = -1 := i_ne c6
        refine lv_iload X.1 X.2.1 dX8_pool_44 (lv_at hl 0 rfl) ?_
        exact rI X hr hlk dX8_pool_46
      · skip
        have t8 : r5.toInt = -1 := i_eq c6
        refine lv_bipush (v := (-3)) X.1 X.2.1 dX8_pool_39 (by decide) ?_
        refine lv_goto (tgt := 46) X.1 X.2.1 dX8_pool_41 (by decide) ?_
        exact rI X hr hlk dX8_pool_46
    · skip
      have t9 : r2.toInt = 0 := i_eq c3
      refine lv_bipush (v := (-2)) X.1 X.2.1 dX8_pool_21 (by decide) ?_
      exact rI X hr hlk dX8_pool_23

def f_X8_gain (M : Mem) (a1 : Int32) (a2 : Int32) (a3 : Int32) (a4 : Int32) : Int64 := oc (f_X8_questionOf a2) (oc (f_X8_rowOf M a1 a2) (-1) (fun o2 => (-1))) (fun o1 => oc (f_X8_rowOf M a1 a2) (-1) (fun o3 => bnd (f_X8_isDepth a3) (fun r4 => if r4 = 0 then (-2) else (bnd (f_X2_gainOf M o1 o3 a3 a4) (fun r7 => r7)))))
set_option maxRecDepth 100000 in
set_option maxHeartbeats 4000000 in
theorem c_X8_gain (l : Launch) (G : En) (A : Nat → Prop) (M : Mem) (a1 : Int32) (a2 : Int32) (a3 : Int32) (a4 : Int32) : RdL true l yX8_gain wsX8_gain ({ frames := 3, cells := 0, slots := 0, locals := 77 }) G A M [.ref (G.2.2 0), .int a1, .int a2, .int a3, .int a4] (f_X8_gain M a1 a2 a3 a4) := by
  refine RdL.of (cc := cX8_gain) (maxL := 7) (ret := (some .long)) (own := RX8) (by decide) rfl rfl (Nat.le_of_ble_eq_true rfl) ?_
  intro p e s m below meth c X hw hr hlk ls hl
  have hl : lv_has ls 7 [(0, .ref (G.2.2 0)), (1, .int a1), (2, .int a2), (3, .int a3), (4, .int a4)] := hl
  unfold f_X8_gain
  refine lv_aload_n X.1 X.2.1 dX8_gain_0 rfl (lv_at hl 0 rfl) ?_
  refine lv_iload_n X.1 X.2.1 dX8_gain_1 rfl (lv_at hl 2 rfl) ?_
  refine cVO [.int a2] [] X hw (c_X8_questionOf l G A M a2) (cwV 1 X.2.2.2.2 gX8_gain_X8_questionOf rfl rfl rfl (by decide +kernel) ⟨Nat.le_of_ble_eq_true rfl, Nat.le_of_ble_eq_true rfl⟩) (hw.recv (by decide) hk_RB rfl) rfl rfl hl.1 (Nat.le_of_ble_eq_true rfl) dX8_gain_2 ?_
  refine tno (fun eo1 => ?_) (fun o1 eo1 => ?_)
  · skip
    refine lv_astoreN (lv' := [(5, .null), (0, .ref (G.2.2 0)), (1, .int a1), (2, .int a2), (3, .int a3), (4, .int a4)]) X.1 X.2.1 dX8_gain_5 hl (by decide) rfl (fun ls hl => ?_)
    refine lv_aload_n X.1 X.2.1 dX8_gain_7 rfl (lv_at hl 1 rfl) ?_
    refine lv_iload_n X.1 X.2.1 dX8_gain_8 rfl (lv_at hl 2 rfl) ?_
    refine lv_iload_n X.1 X.2.1 dX8_gain_9 rfl (lv_at hl 3 rfl) ?_
    refine cVO [.int a1, .int a2] [] X hw (c_X8_rowOf l G A M a1 a2) (cwV 2 X.2.2.2.2 gX8_gain_X8_rowOf rfl rfl rfl (by decide +kernel) ⟨Nat.le_of_ble_eq_true rfl, Nat.le_of_ble_eq_true rfl⟩) (hw.recv (by decide) hk_RB rfl) rfl rfl hl.1 (Nat.le_of_ble_eq_true rfl) dX8_gain_10 ?_
    refine tno (fun eo2 => ?_) (fun o2 eo2 => ?_)
    · skip
      refine lv_astoreN (lv' := [(6, .null), (5, .null), (0, .ref (G.2.2 0)), (1, .int a1), (2, .int a2), (3, .int a3), (4, .int a4)]) X.1 X.2.1 dX8_gain_13 hl (by decide) rfl (fun ls hl => ?_)
      refine lv_aloadN X.1 X.2.1 dX8_gain_15 (lv_at hl 1 rfl) ?_
      refine lv_ifnullN (tgt := 25) X.1 X.2.1 dX8_gain_17 (by decide) ?_
      refine lv_ldc2 (v := (-1)) X.1 X.2.1 X.2.2.2.1 (X.2.2.2.2 (.constantLong RX8 114 ((-1))) (by decide +kernel)) dX8_gain_25 ?_
      exact rL X hr hlk dX8_gain_28
    · skip
      have ho2 : 34 ≤ o2 ∧ o2 < 66 := b_X8_rowOf eo2
      refine lv_astore (lv' := [(6, .ref (G.2.2 o2)), (5, .null), (0, .ref (G.2.2 0)), (1, .int a1), (2, .int a2), (3, .int a3), (4, .int a4)]) X.1 X.2.1 dX8_gain_13 hl (by decide) rfl (fun ls hl => ?_)
      refine lv_aloadN X.1 X.2.1 dX8_gain_15 (lv_at hl 1 rfl) ?_
      refine lv_ifnullN (tgt := 25) X.1 X.2.1 dX8_gain_17 (by decide) ?_
      refine lv_ldc2 (v := (-1)) X.1 X.2.1 X.2.2.2.1 (X.2.2.2.2 (.constantLong RX8 114 ((-1))) (by decide +kernel)) dX8_gain_25 ?_
      exact rL X hr hlk dX8_gain_28
  · skip
    have ho1 : 10 ≤ o1 ∧ o1 < 18 := b_X8_questionOf eo1
    refine lv_astore (lv' := [(5, .ref (G.2.2 o1)), (0, .ref (G.2.2 0)), (1, .int a1), (2, .int a2), (3, .int a3), (4, .int a4)]) X.1 X.2.1 dX8_gain_5 hl (by decide) rfl (fun ls hl => ?_)
    refine lv_aload_n X.1 X.2.1 dX8_gain_7 rfl (lv_at hl 1 rfl) ?_
    refine lv_iload_n X.1 X.2.1 dX8_gain_8 rfl (lv_at hl 2 rfl) ?_
    refine lv_iload_n X.1 X.2.1 dX8_gain_9 rfl (lv_at hl 3 rfl) ?_
    refine cVO [.int a1, .int a2] [] X hw (c_X8_rowOf l G A M a1 a2) (cwV 2 X.2.2.2.2 gX8_gain_X8_rowOf rfl rfl rfl (by decide +kernel) ⟨Nat.le_of_ble_eq_true rfl, Nat.le_of_ble_eq_true rfl⟩) (hw.recv (by decide) hk_RB rfl) rfl rfl hl.1 (Nat.le_of_ble_eq_true rfl) dX8_gain_10 ?_
    refine tno (fun eo3 => ?_) (fun o3 eo3 => ?_)
    · skip
      refine lv_astoreN (lv' := [(6, .null), (5, .ref (G.2.2 o1)), (0, .ref (G.2.2 0)), (1, .int a1), (2, .int a2), (3, .int a3), (4, .int a4)]) X.1 X.2.1 dX8_gain_13 hl (by decide) rfl (fun ls hl => ?_)
      refine lv_aload X.1 X.2.1 dX8_gain_15 (lv_at hl 1 rfl) ?_
      refine lv_ifnull X.1 X.2.1 dX8_gain_17 ?_
      refine lv_aloadN X.1 X.2.1 dX8_gain_20 (lv_at hl 0 rfl) ?_
      refine lv_ifnonnullN X.1 X.2.1 dX8_gain_22 ?_
      refine lv_ldc2 (v := (-1)) X.1 X.2.1 X.2.2.2.1 (X.2.2.2.2 (.constantLong RX8 114 ((-1))) (by decide +kernel)) dX8_gain_25 ?_
      exact rL X hr hlk dX8_gain_28
    · skip
      have ho3 : 34 ≤ o3 ∧ o3 < 66 := b_X8_rowOf eo3
      refine lv_astore (lv' := [(6, .ref (G.2.2 o3)), (5, .ref (G.2.2 o1)), (0, .ref (G.2.2 0)), (1, .int a1), (2, .int a2), (3, .int a3), (4, .int a4)]) X.1 X.2.1 dX8_gain_13 hl (by decide) rfl (fun ls hl => ?_)
      refine lv_aload X.1 X.2.1 dX8_gain_15 (lv_at hl 1 rfl) ?_
      refine lv_ifnull X.1 X.2.1 dX8_gain_17 ?_
      refine lv_aload X.1 X.2.1 dX8_gain_20 (lv_at hl 0 rfl) ?_
      refine lv_ifnonnull (tgt := 29) X.1 X.2.1 dX8_gain_22 (by decide) ?_
      refine lv_iload_n X.1 X.2.1 dX8_gain_29 rfl (lv_at hl 5 rfl) ?_
      refine cSI [.int a3] [] X hw (c_X8_isDepth l G A M a3) (va_cwS 1 X.2.2.2.2 gX8_gain_X8_isDepth rfl rfl rfl (by decide +kernel) ⟨Nat.le_of_ble_eq_true rfl, Nat.le_of_ble_eq_true rfl⟩)  rfl rfl hl.1 (Nat.le_of_ble_eq_true rfl) dX8_gain_30 ?_
      refine tni (fun r4 er4 => ?_)
      have qr4 := dep_or er4
      refine bz_ne (tgt := 40) X dX8_gain_33 (by decide) (fun c5 => ?_) (fun c5 => ?_)
      · skip
        have t6 : ¬ r4.toInt = 0 := i_ne c5
        refine lv_aload X.1 X.2.1 dX8_gain_40 (lv_at hl 1 rfl) ?_
        refine lv_aload X.1 X.2.1 dX8_gain_42 (lv_at hl 0 rfl) ?_
        refine lv_iload_n X.1 X.2.1 dX8_gain_44 rfl (lv_at hl 5 rfl) ?_
        refine lv_iload X.1 X.2.1 dX8_gain_45 (lv_at hl 6 rfl) ?_
        refine cSL [.ref (G.2.2 o1), .ref (G.2.2 o3), .int a3, .int a4] [] X hw (c_X2_gainOf l G A M o1 ho1 o3 ho3 a3 a4 (by omega)) (va_cwS 4 X.2.2.2.2 gX8_gain_X2_gainOf rfl rfl rfl (by decide +kernel) ⟨Nat.le_of_ble_eq_true rfl, Nat.le_of_ble_eq_true rfl⟩)  rfl rfl hl.1 (Nat.le_of_ble_eq_true rfl) dX8_gain_47 ?_
        refine tnl (fun r7 er7 => ?_)
        exact rL X hr hlk dX8_gain_50
      · skip
        have t8 : r4.toInt = 0 := i_eq c5
        refine lv_ldc2 (v := (-2)) X.1 X.2.1 X.2.2.2.1 (X.2.2.2.2 (.constantLong RX8 116 ((-2))) (by decide +kernel)) dX8_gain_36 ?_
        exact rL X hr hlk dX8_gain_39
