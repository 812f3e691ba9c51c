/-! 18.lookups -/
def f_X8_isRanker (a1 : Int32) : Int32 := if a1 < 0 then 0 else (if (4 : Int32) ≤ a1 then 0 else 1)
set_option maxRecDepth 100000 in
set_option maxHeartbeats 4000000 in
theorem c_X8_isRanker (l : Launch) (G : En) (A : Nat → Prop) (M : Mem) (a1 : Int32) : RdI true l yX8_isRanker wsX8_isRanker ({ frames := 0, cells := 0, slots := 0, locals := 0 }) G A M [.int a1] (f_X8_isRanker a1) := by
  refine RdI.of (cc := cX8_isRanker) (maxL := 1) (ret := (some .boolean)) (own := RX8) (by decide) rfl rfl (Nat.le_of_ble_eq_true rfl) ?_
  intro p e s m below meth c X hw hr hlk ls hl
  have hl : lv_has ls 1 [(0, .int a1)] := hl
  unfold f_X8_isRanker
  refine lv_iload_n X.1 X.2.1 dX8_isRanker_0 rfl (lv_at hl 0 rfl) ?_
  refine bz_lt (tgt := 13) X dX8_isRanker_1 (by decide) (fun c1 => ?_) (fun c1 => ?_)
  · skip
    have t2 : a1.toInt < 0 := i_lt c1
    refine lv_iconst (v := 0) X.1 X.2.1 dX8_isRanker_13 (by decide) ?_
    exact rZ X hr hlk rfl dX8_isRanker_14
  · skip
    have t3 : 0 ≤ a1.toInt := i_nlt c1
    refine lv_iload_n X.1 X.2.1 dX8_isRanker_4 rfl (lv_at hl 0 rfl) ?_
    refine lv_iconst (v := 4) X.1 X.2.1 dX8_isRanker_5 (by decide) ?_
    refine bi_ge (tgt := 13) X dX8_isRanker_6 (by decide) (fun c4 => ?_) (fun c4 => ?_)
    · skip
      have t5 : 4 ≤ a1.toInt := i_le c4
      refine lv_iconst (v := 0) X.1 X.2.1 dX8_isRanker_13 (by decide) ?_
      exact rZ X hr hlk rfl dX8_isRanker_14
    · skip
      have t6 : a1.toInt < 4 := i_nle c4
      refine lv_iconst (v := 1) X.1 X.2.1 dX8_isRanker_9 (by decide) ?_
      refine lv_goto (tgt := 14) X.1 X.2.1 dX8_isRanker_10 (by decide) ?_
      exact rZ X hr hlk rfl dX8_isRanker_14

def f_X8_isDocument (a1 : Int32) : Int32 := if a1 < 0 then 0 else (if (24 : Int32) ≤ a1 then 0 else 1)
set_option maxRecDepth 100000 in
set_option maxHeartbeats 4000000 in
theorem c_X8_isDocument (l : Launch) (G : En) (A : Nat → Prop) (M : Mem) (a1 : Int32) : RdI true l yX8_isDocument wsX8_isDocument ({ frames := 0, cells := 0, slots := 0, locals := 0 }) G A M [.int a1] (f_X8_isDocument a1) := by
  refine RdI.of (cc := cX8_isDocument) (maxL := 1) (ret := (some .boolean)) (own := RX8) (by decide) rfl rfl (Nat.le_of_ble_eq_true rfl) ?_
  intro p e s m below meth c X hw hr hlk ls hl
  have hl : lv_has ls 1 [(0, .int a1)] := hl
  unfold f_X8_isDocument
  refine lv_iload_n X.1 X.2.1 dX8_isDocument_0 rfl (lv_at hl 0 rfl) ?_
  refine bz_lt (tgt := 14) X dX8_isDocument_1 (by decide) (fun c1 => ?_) (fun c1 => ?_)
  · skip
    have t2 : a1.toInt < 0 := i_lt c1
    refine lv_iconst (v := 0) X.1 X.2.1 dX8_isDocument_14 (by decide) ?_
    exact rZ X hr hlk rfl dX8_isDocument_15
  · skip
    have t3 : 0 ≤ a1.toInt := i_nlt c1
    refine lv_iload_n X.1 X.2.1 dX8_isDocument_4 rfl (lv_at hl 0 rfl) ?_
    refine lv_bipush (v := 24) X.1 X.2.1 dX8_isDocument_5 (by decide) ?_
    refine bi_ge (tgt := 14) X dX8_isDocument_7 (by decide) (fun c4 => ?_) (fun c4 => ?_)
    · skip
      have t5 : 24 ≤ a1.toInt := i_le c4
      refine lv_iconst (v := 0) X.1 X.2.1 dX8_isDocument_14 (by decide) ?_
      exact rZ X hr hlk rfl dX8_isDocument_15
    · skip
      have t6 : a1.toInt < 24 := i_nle c4
      refine lv_iconst (v := 1) X.1 X.2.1 dX8_isDocument_10 (by decide) ?_
      refine lv_goto (tgt := 15) X.1 X.2.1 dX8_isDocument_11 (by decide) ?_
      exact rZ X hr hlk rfl dX8_isDocument_15

def f_X8_isDepth (a1 : Int32) : Int32 := if a1 < 1 then 0 else (if (16 : Int32) < a1 then 0 else 1)
set_option maxRecDepth 100000 in
set_option maxHeartbeats 4000000 in
theorem c_X8_isDepth (l : Launch) (G : En) (A : Nat → Prop) (M : Mem) (a1 : Int32) : RdI true l yX8_isDepth wsX8_isDepth ({ frames := 0, cells := 0, slots := 0, locals := 0 }) G A M [.int a1] (f_X8_isDepth a1) := by
  refine RdI.of (cc := cX8_isDepth) (maxL := 1) (ret := (some .boolean)) (own := RX8) (by decide) rfl rfl (Nat.le_of_ble_eq_true rfl) ?_
  intro p e s m below meth c X hw hr hlk ls hl
  have hl : lv_has ls 1 [(0, .int a1)] := hl
  unfold f_X8_isDepth
  refine lv_iload_n X.1 X.2.1 dX8_isDepth_0 rfl (lv_at hl 0 rfl) ?_
  refine lv_iconst (v := 1) X.1 X.2.1 dX8_isDepth_1 (by decide) ?_
  refine bi_lt (tgt := 15) X dX8_isDepth_2 (by decide) (fun c1 => ?_) (fun c1 => ?_)
  · skip
    have t2 : a1.toInt < 1 := i_lt c1
    refine lv_iconst (v := 0) X.1 X.2.1 dX8_isDepth_15 (by decide) ?_
    exact rZ X hr hlk rfl dX8_isDepth_16
  · skip
    have t3 : 1 ≤ a1.toInt := i_nlt c1
    refine lv_iload_n X.1 X.2.1 dX8_isDepth_5 rfl (lv_at hl 0 rfl) ?_
    refine lv_bipush (v := 16) X.1 X.2.1 dX8_isDepth_6 (by decide) ?_
    refine bi_gt (tgt := 15) X dX8_isDepth_8 (by decide) (fun c4 => ?_) (fun c4 => ?_)
    · skip
      have t5 : 16 < a1.toInt := i_lt c4
      refine lv_iconst (v := 0) X.1 X.2.1 dX8_isDepth_15 (by decide) ?_
      exact rZ X hr hlk rfl dX8_isDepth_16
    · skip
      have t6 : a1.toInt ≤ 16 := i_nlt c4
      refine lv_iconst (v := 1) X.1 X.2.1 dX8_isDepth_11 (by decide) ?_
      refine lv_goto (tgt := 16) X.1 X.2.1 dX8_isDepth_12 (by decide) ?_
      exact rZ X hr hlk rfl dX8_isDepth_16
theorem dep_or {r a : Int32} (e : r = f_X8_isDepth a) : r.toInt = 0 ∨ (1 ≤ a.toInt ∧ a.toInt ≤ 16) := by
  subst e
  unfold f_X8_isDepth
  by_cases c1 : a < 1
  · rw [if_pos c1]; exact Or.inl rfl
  · rw [if_neg c1]
    by_cases c2 : 16 < a
    · rw [if_pos c2]; exact Or.inl rfl
    · exact Or.inr ⟨i_nlt c1, i_nlt c2⟩

def f_X8_isMeasure (a1 : Int32) : Int32 := if a1 < 0 then 0 else (if (8 : Int32) < a1 then 0 else 1)
set_option maxRecDepth 100000 in
set_option maxHeartbeats 4000000 in
theorem c_X8_isMeasure (l : Launch) (G : En) (A : Nat → Prop) (M : Mem) (a1 : Int32) : RdI true l yX8_isMeasure wsX8_isMeasure ({ frames := 0, cells := 0, slots := 0, locals := 0 }) G A M [.int a1] (f_X8_isMeasure a1) := by
  refine RdI.of (cc := cX8_isMeasure) (maxL := 1) (ret := (some .boolean)) (own := RX8) (by decide) rfl rfl (Nat.le_of_ble_eq_true rfl) ?_
  intro p e s m below meth c X hw hr hlk ls hl
  have hl : lv_has ls 1 [(0, .int a1)] := hl
  unfold f_X8_isMeasure
  refine lv_iload_n X.1 X.2.1 dX8_isMeasure_0 rfl (lv_at hl 0 rfl) ?_
  refine bz_lt (tgt := 14) X dX8_isMeasure_1 (by decide) (fun c1 => ?_) (fun c1 => ?_)
  · skip
    have t2 : a1.toInt < 0 := i_lt c1
    refine lv_iconst (v := 0) X.1 X.2.1 dX8_isMeasure_14 (by decide) ?_
    exact rZ X hr hlk rfl dX8_isMeasure_15
  · skip
    have t3 : 0 ≤ a1.toInt := i_nlt c1
    refine lv_iload_n X.1 X.2.1 dX8_isMeasure_4 rfl (lv_at hl 0 rfl) ?_
    refine lv_bipush (v := 8) X.1 X.2.1 dX8_isMeasure_5 (by decide) ?_
    refine bi_gt (tgt := 14) X dX8_isMeasure_7 (by decide) (fun c4 => ?_) (fun c4 => ?_)
    · skip
      have t5 : 8 < a1.toInt := i_lt c4
      refine lv_iconst (v := 0) X.1 X.2.1 dX8_isMeasure_14 (by decide) ?_
      exact rZ X hr hlk rfl dX8_isMeasure_15
    · skip
      have t6 : a1.toInt ≤ 8 := i_nlt c4
      refine lv_iconst (v := 1) X.1 X.2.1 dX8_isMeasure_10 (by decide) ?_
      refine lv_goto (tgt := 15) X.1 X.2.1 dX8_isMeasure_11 (by decide) ?_
      exact rZ X hr hlk rfl dX8_isMeasure_15

def f_X8_hasMean (a1 : Int32) : Int32 := bnd (f_X8_isMeasure a1) (fun r1 => if r1 = 0 then 0 else (if a1 = 4 then 0 else (if a1 = 5 then 0 else 1)))
set_option maxRecDepth 100000 in
set_option maxHeartbeats 4000000 in
theorem c_X8_hasMean (l : Launch) (G : En) (A : Nat → Prop) (M : Mem) (a1 : Int32) : RdI true l yX8_hasMean wsX8_hasMean ({ frames := 1, cells := 0, slots := 0, locals := 20 }) G A M [.int a1] (f_X8_hasMean a1) := by
  refine RdI.of (cc := cX8_hasMean) (maxL := 1) (ret := (some .boolean)) (own := RX8) (by decide) rfl rfl (Nat.le_of_ble_eq_true rfl) ?_
  intro p e s m below meth c X hw hr hlk ls hl
  have hl : lv_has ls 1 [(0, .int a1)] := hl
  unfold f_X8_hasMean
  refine lv_iload_n X.1 X.2.1 dX8_hasMean_0 rfl (lv_at hl 0 rfl) ?_
  refine cSI [.int a1] [] X hw (c_X8_isMeasure l G A M a1) (va_cwS 1 X.2.2.2.2 gX8_hasMean_X8_isMeasure rfl rfl rfl (by decide +kernel) ⟨Nat.le_of_ble_eq_true rfl, Nat.le_of_ble_eq_true rfl⟩)  rfl rfl hl.1 (Nat.le_of_ble_eq_true rfl) dX8_hasMean_1 ?_
  refine tni (fun r1 er1 => ?_)
  refine bz_eq (tgt := 21) X dX8_hasMean_4 (by decide) (fun c2 => ?_) (fun c2 => ?_)
  · skip
    have t3 : r1.toInt = 0 := i_eq c2
    refine lv_iconst (v := 0) X.1 X.2.1 dX8_hasMean_21 (by decide) ?_
    exact rZ X hr hlk rfl dX8_hasMean_22
  · skip
    have t4 : ¬ r1.toInt = 0 := i_ne c2
    refine lv_iload_n X.1 X.2.1 dX8_hasMean_7 rfl (lv_at hl 0 rfl) ?_
    refine lv_iconst (v := 4) X.1 X.2.1 dX8_hasMean_8 (by decide) ?_
    refine bi_eq (tgt := 21) X dX8_hasMean_9 (by decide) (fun c5 => ?_) (fun c5 => ?_)
    · skip
      have t6 : a1.toInt = 4 := i_eq c5
      refine lv_iconst (v := 0) X.1 X.2.1 dX8_hasMean_21 (by decide) ?_
      exact rZ X hr hlk rfl dX8_hasMean_22
    · skip
      have t7 : ¬ a1.toInt = 4 := i_ne c5
      refine lv_iload_n X.1 X.2.1 dX8_hasMean_12 rfl (lv_at hl 0 rfl) ?_
      refine lv_iconst (v := 5) X.1 X.2.1 dX8_hasMean_13 (by decide) ?_
      refine bi_eq (tgt := 21) X dX8_hasMean_14 (by decide) (fun c8 => ?_) (fun c8 => ?_)
      · skip
        have t9 : a1.toInt = 5 := i_eq c8
        refine lv_iconst (v := 0) X.1 X.2.1 dX8_hasMean_21 (by decide) ?_
        exact rZ X hr hlk rfl dX8_hasMean_22
      · skip
        have t10 : ¬ a1.toInt = 5 := i_ne c8
        refine lv_iconst (v := 1) X.1 X.2.1 dX8_hasMean_17 (by decide) ?_
        refine lv_goto (tgt := 22) X.1 X.2.1 dX8_hasMean_18 (by decide) ?_
        exact rZ X hr hlk rfl dX8_hasMean_22

def f_X8_questionOf (a1 : Int32) : Option Nat := if a1 < 0 then none else (if (8 : Int32) ≤ a1 then none else (some (10 + a1.toNatClampNeg)))
set_option maxRecDepth 100000 in
set_option maxHeartbeats 4000000 in
theorem c_X8_questionOf (l : Launch) (G : En) (A : Nat → Prop) (M : Mem) (a1 : Int32) : RdO true l yX8_questionOf wsX8_questionOf ({ frames := 0, cells := 0, slots := 0, locals := 0 }) G A M [.ref (G.2.2 0), .int a1] (f_X8_questionOf a1) := by
  refine RdO.of (cc := cX8_questionOf) (maxL := 2) (ret := (some (.object "RankBench$Question"))) (own := RX8) (by decide) rfl rfl (Nat.le_of_ble_eq_true rfl) ?_
  intro p e s m below meth c X hw hr hlk ls hl
  have hl : lv_has ls 2 [(0, .ref (G.2.2 0)), (1, .int a1)] := hl
  unfold f_X8_questionOf
  refine lv_iload_n X.1 X.2.1 dX8_questionOf_0 rfl (lv_at hl 1 rfl) ?_
  refine bz_lt (tgt := 19) X dX8_questionOf_1 (by decide) (fun c1 => ?_) (fun c1 => ?_)
  · skip
    have t2 : a1.toInt < 0 := i_lt c1
    refine lv_null X.1 X.2.1 dX8_questionOf_19 ?_
    exact rN X hr hlk dX8_questionOf_20
  · skip
    have t3 : 0 ≤ a1.toInt := i_nlt c1
    refine lv_iload_n X.1 X.2.1 dX8_questionOf_4 rfl (lv_at hl 1 rfl) ?_
    refine lv_bipush (v := 8) X.1 X.2.1 dX8_questionOf_5 (by decide) ?_
    refine bi_ge (tgt := 19) X dX8_questionOf_7 (by decide) (fun c4 => ?_) (fun c4 => ?_)
    · skip
      have t5 : 8 ≤ a1.toInt := i_le c4
      refine lv_null X.1 X.2.1 dX8_questionOf_19 ?_
      exact rN X hr hlk dX8_questionOf_20
    · skip
      have t6 : a1.toInt < 8 := i_nle c4
      refine lv_aload_n X.1 X.2.1 dX8_questionOf_10 rfl (lv_at hl 0 rfl) ?_
      refine gF X hw (by decide) hk_RB rfl (by decide +kernel) 0 (by decide) (ref := "RankBench") rfl (by decide +kernel) rfl dX8_questionOf_11 ?_
      refine lv_iload_n X.1 X.2.1 dX8_questionOf_14 rfl (lv_at hl 1 rfl) ?_
      refine aQ X hw (by decide) hk_Qs (vp_in_iff.mpr ⟨by omega, by omega⟩) dX8_questionOf_15 ?_
      have cl8 : a1.toNatClampNeg < 8 := clampN (by omega) (by omega)
      have hr7 : 10 ≤ (10 + a1.toNatClampNeg) ∧ (10 + a1.toNatClampNeg) < 18 := by have h9 := True.intro; omega
      refine lv_goto (tgt := 20) X.1 X.2.1 dX8_questionOf_16 (by decide) ?_
      exact rR X hr hlk dX8_questionOf_20
theorem b_X8_questionOf {a1 : Int32} {o : Nat} (h : f_X8_questionOf a1 = some o) : 10 ≤ o ∧ o < 18 := by
  unfold f_X8_questionOf at h
  by_cases c1 : a1 < 0
  · rw [if_pos c1] at h; cases h
  · rw [if_neg c1] at h
    by_cases c2 : 8 ≤ a1
    · rw [if_pos c2] at h; cases h
    · rw [if_neg c2] at h
      cases h
      have t1 : 0 ≤ a1.toInt := i_nlt c1
      have t2 : a1.toInt < 8 := i_nle c2
      have t3 : a1.toNatClampNeg < 8 := clampN (by omega) (by omega)
      omega

def f_X8_placeOf (a1 : Int32) (a2 : Int32) : Option Nat := oc (f_X8_questionOf a2) none (fun o1 => oc (f_X6_rowPlace o1 a1) none (fun o2 => some o2))
set_option maxRecDepth 100000 in
set_option maxHeartbeats 4000000 in
theorem c_X8_placeOf (l : Launch) (G : En) (A : Nat → Prop) (M : Mem) (a1 : Int32) (a2 : Int32) : RdO true l yX8_placeOf wsX8_placeOf ({ frames := 1, cells := 0, slots := 0, locals := 21 }) G A M [.ref (G.2.2 0), .int a1, .int a2] (f_X8_placeOf a1 a2) := by
  refine RdO.of (cc := cX8_placeOf) (maxL := 4) (ret := (some (.object "RankBench$Row"))) (own := RX8) (by decide) rfl rfl (Nat.le_of_ble_eq_true rfl) ?_
  intro p e s m below meth c X hw hr hlk ls hl
  have hl : lv_has ls 4 [(0, .ref (G.2.2 0)), (1, .int a1), (2, .int a2)] := hl
  unfold f_X8_placeOf
  refine lv_aload_n X.1 X.2.1 dX8_placeOf_0 rfl (lv_at hl 0 rfl) ?_
  refine lv_iload_n X.1 X.2.1 dX8_placeOf_1 rfl (lv_at hl 2 rfl) ?_
  refine cVO [.int a2] [] X hw (c_X8_questionOf l G A M a2) (cwV 1 X.2.2.2.2 gX8_placeOf_X8_questionOf rfl rfl rfl (by decide +kernel) ⟨Nat.le_of_ble_eq_true rfl, Nat.le_of_ble_eq_true rfl⟩) (hw.recv (by decide) hk_RB rfl) rfl rfl hl.1 (Nat.le_of_ble_eq_true rfl) dX8_placeOf_2 ?_
  refine tno (fun eo1 => ?_) (fun o1 eo1 => ?_)
  · skip
    refine lv_astore_nN (lv' := [(3, .null), (0, .ref (G.2.2 0)), (1, .int a1), (2, .int a2)]) X.1 X.2.1 dX8_placeOf_5 rfl hl (by decide) rfl (fun ls hl => ?_)
    refine lv_aload_nN X.1 X.2.1 dX8_placeOf_6 rfl (lv_at hl 0 rfl) ?_
    refine lv_ifnonnullN X.1 X.2.1 dX8_placeOf_7 ?_
    refine lv_null X.1 X.2.1 dX8_placeOf_10 ?_
    refine lv_goto (tgt := 19) X.1 X.2.1 dX8_placeOf_11 (by decide) ?_
    exact rN X hr hlk dX8_placeOf_19
  · skip
    have ho1 : 10 ≤ o1 ∧ o1 < 18 := b_X8_questionOf eo1
    refine lv_astore_n (lv' := [(3, .ref (G.2.2 o1)), (0, .ref (G.2.2 0)), (1, .int a1), (2, .int a2)]) X.1 X.2.1 dX8_placeOf_5 rfl hl (by decide) rfl (fun ls hl => ?_)
    refine lv_aload_n X.1 X.2.1 dX8_placeOf_6 rfl (lv_at hl 0 rfl) ?_
    refine lv_ifnonnull (tgt := 14) X.1 X.2.1 dX8_placeOf_7 (by decide) ?_
    refine lv_aload_n X.1 X.2.1 dX8_placeOf_14 rfl (lv_at hl 0 rfl) ?_
    refine lv_iload_n X.1 X.2.1 dX8_placeOf_15 rfl (lv_at hl 2 rfl) ?_
    refine cVO [.int a1] [] X hw (c_X6_rowPlace l G A M o1 ho1 a1) (cwV 1 X.2.2.2.2 gX8_placeOf_X6_rowPlace rfl rfl rfl (by decide +kernel) ⟨Nat.le_of_ble_eq_true rfl, Nat.le_of_ble_eq_true rfl⟩) (hw.recv (lt98 (by have h9 := ho1; omega)) (hk_Q ho1) rfl) rfl rfl hl.1 (Nat.le_of_ble_eq_true rfl) dX8_placeOf_16 ?_
    refine tno (fun eo2 => ?_) (fun o2 eo2 => ?_)
    · skip
      exact rN X hr hlk dX8_placeOf_19
    · skip
      have ho2 : 34 ≤ o2 ∧ o2 < 66 := b_X6_rowPlace ho1 eo2
      exact rR X hr hlk dX8_placeOf_19
theorem b_X8_placeOf {a1 a2 : Int32} {o : Nat} (h : f_X8_placeOf a1 a2 = some o) : 34 ≤ o ∧ o < 66 := by
  unfold f_X8_placeOf at h
  cases hq : f_X8_questionOf a2 with
  | none => rw [hq] at h; cases h
  | some q =>
    rw [hq] at h
    have h2 : oc (f_X6_rowPlace q a1) none (fun o => some o) = some o := h
    cases hr : f_X6_rowPlace q a1 with
    | none => rw [hr] at h2; cases h2
    | some x => rw [hr] at h2; cases h2; exact b_X6_rowPlace (b_X8_questionOf hq) hr

def f_X8_rowOf (M : Mem) (a1 : Int32) (a2 : Int32) : Option Nat := oc (f_X8_placeOf a1 a2) none (fun o1 => bnd (f_X7_isTold M o1) (fun r2 => if r2 = 0 then none else (some o1)))
set_option maxRecDepth 100000 in
set_option maxHeartbeats 4000000 in
theorem c_X8_rowOf (l : Launch) (G : En) (A : Nat → Prop) (M : Mem) (a1 : Int32) (a2 : Int32) : RdO true l yX8_rowOf wsX8_rowOf ({ frames := 2, cells := 0, slots := 0, locals := 44 }) G A M [.ref (G.2.2 0), .int a1, .int a2] (f_X8_rowOf M a1 a2) := by
  refine RdO.of (cc := cX8_rowOf) (maxL := 4) (ret := (some (.object "RankBench$Row"))) (own := RX8) (by decide) rfl rfl (Nat.le_of_ble_eq_true rfl) ?_
  intro p e s m below meth c X hw hr hlk ls hl
  have hl : lv_has ls 4 [(0, .ref (G.2.2 0)), (1, .int a1), (2, .int a2)] := hl
  unfold f_X8_rowOf
  refine lv_aload_n X.1 X.2.1 dX8_rowOf_0 rfl (lv_at hl 0 rfl) ?_
  refine lv_iload_n X.1 X.2.1 dX8_rowOf_1 rfl (lv_at hl 1 rfl) ?_
  refine lv_iload_n X.1 X.2.1 dX8_rowOf_2 rfl (lv_at hl 2 rfl) ?_
  refine cVO [.int a1, .int a2] [] X hw (c_X8_placeOf l G A M a1 a2) (cwV 2 X.2.2.2.2 gX8_rowOf_X8_placeOf rfl rfl rfl (by decide +kernel) ⟨Nat.le_of_ble_eq_true rfl, Nat.le_of_ble_eq_true rfl⟩) (hw.recv (by decide) hk_RB rfl) rfl rfl hl.1 (Nat.le_of_ble_eq_true rfl) dX8_rowOf_3 ?_
  refine tno (fun eo1 => ?_) (fun o1 eo1 => ?_)
  · skip
    refine lv_astore_nN (lv' := [(3, .null), (0, .ref (G.2.2 0)), (1, .int a1), (2, .int a2)]) X.1 X.2.1 dX8_rowOf_6 rfl hl (by decide) rfl (fun ls hl => ?_)
    refine lv_aload_nN X.1 X.2.1 dX8_rowOf_7 rfl (lv_at hl 0 rfl) ?_
    refine lv_ifnullN (tgt := 18) X.1 X.2.1 dX8_rowOf_8 (by decide) ?_
    refine lv_null X.1 X.2.1 dX8_rowOf_18 ?_
    refine lv_goto (tgt := 23) X.1 X.2.1 dX8_rowOf_19 (by decide) ?_
    exact rN X hr hlk dX8_rowOf_23
  · skip
    have ho1 : 34 ≤ o1 ∧ o1 < 66 := b_X8_placeOf eo1
    refine lv_astore_n (lv' := [(3, .ref (G.2.2 o1)), (0, .ref (G.2.2 0)), (1, .int a1), (2, .int a2)]) X.1 X.2.1 dX8_rowOf_6 rfl hl (by decide) rfl (fun ls hl => ?_)
    refine lv_aload_n X.1 X.2.1 dX8_rowOf_7 rfl (lv_at hl 0 rfl) ?_
    refine lv_ifnull X.1 X.2.1 dX8_rowOf_8 ?_
    refine lv_aload_n X.1 X.2.1 dX8_rowOf_11 rfl (lv_at hl 0 rfl) ?_
    refine cVI [] [] X hw (c_X7_isTold l G A M o1 ho1) (cwV 0 X.2.2.2.2 gX8_rowOf_X7_isTold rfl rfl rfl (by decide +kernel) ⟨Nat.le_of_ble_eq_true rfl, Nat.le_of_ble_eq_true rfl⟩) (hw.recv (lt98 (by have h9 := ho1; omega)) (hk_Row ho1) rfl) rfl rfl hl.1 (Nat.le_of_ble_eq_true rfl) dX8_rowOf_12 ?_
    refine tni (fun r2 er2 => ?_)
    refine bz_ne (tgt := 22) X dX8_rowOf_15 (by decide) (fun c3 => ?_) (fun c3 => ?_)
    · skip
      have t4 : ¬ r2.toInt = 0 := i_ne c3
      refine lv_aload_n X.1 X.2.1 dX8_rowOf_22 rfl (lv_at hl 0 rfl) ?_
      exact rR X hr hlk dX8_rowOf_23
    · skip
      have t5 : r2.toInt = 0 := i_eq c3
      refine lv_null X.1 X.2.1 dX8_rowOf_18 ?_
      refine lv_goto (tgt := 23) X.1 X.2.1 dX8_rowOf_19 (by decide) ?_
      exact rN X hr hlk dX8_rowOf_23
theorem b_X8_rowOf {M : Mem} {a1 a2 : Int32} {o : Nat} (h : f_X8_rowOf M a1 a2 = some o) : 34 ≤ o ∧ o < 66 := by
  unfold f_X8_rowOf at h
  cases hq : f_X8_placeOf a1 a2 with
  | none => rw [hq] at h; cases h
  | some q =>
    rw [hq] at h
    have h2 : (if f_X7_isTold M q = 0 then none else some q) = some o := h
    by_cases c1 : f_X7_isTold M q = 0
    · rw [if_pos c1] at h2; cases h2
    · rw [if_neg c1] at h2; cases h2; exact b_X8_placeOf hq

def f_X8_countingRow (M : Mem) (a1 : Int32) (a2 : Int32) : Option Nat := oc (f_X8_questionOf a2) none (fun o1 => bnd (f_X6_goodOnes M o1) (fun r2 => if r2 = 0 then none else (oc (f_X8_rowOf M a1 a2) none (fun o5 => some o5))))
set_option maxRecDepth 100000 in
set_option maxHeartbeats 4000000 in
theorem c_X8_countingRow (l : Launch) (G : En) (A : Nat → Prop) (M : Mem) (a1 : Int32) (a2 : Int32) : RdO true l yX8_countingRow wsX8_countingRow ({ frames := 3, cells := 0, slots := 0, locals := 67 }) G A M [.ref (G.2.2 0), .int a1, .int a2] (f_X8_countingRow M a1 a2) := by
  refine RdO.of (cc := cX8_countingRow) (maxL := 4) (ret := (some (.object "RankBench$Row"))) (own := RX8) (by decide) rfl rfl (Nat.le_of_ble_eq_true rfl) ?_
  intro p e s m below meth c X hw hr hlk ls hl
  have hl : lv_has ls 4 [(0, .ref (G.2.2 0)), (1, .int a1), (2, .int a2)] := hl
  unfold f_X8_countingRow
  refine lv_aload_n X.1 X.2.1 dX8_countingRow_0 rfl (lv_at hl 0 rfl) ?_
  refine lv_iload_n X.1 X.2.1 dX8_countingRow_1 rfl (lv_at hl 2 rfl) ?_
  refine cVO [.int a2] [] X hw (c_X8_questionOf l G A M a2) (cwV 1 X.2.2.2.2 gX8_countingRow_X8_questionOf rfl rfl rfl (by decide +kernel) ⟨Nat.le_of_ble_eq_true rfl, Nat.le_of_ble_eq_true rfl⟩) (hw.recv (by decide) hk_RB rfl) rfl rfl hl.1 (Nat.le_of_ble_eq_true rfl) dX8_countingRow_2 ?_
  refine tno (fun eo1 => ?_) (fun o1 eo1 => ?_)
  · skip
    refine lv_astore_nN (lv' := [(3, .null), (0, .ref (G.2.2 0)), (1, .int a1), (2, .int a2)]) X.1 X.2.1 dX8_countingRow_5 rfl hl (by decide) rfl (fun ls hl => ?_)
    refine lv_aload_nN X.1 X.2.1 dX8_countingRow_6 rfl (lv_at hl 0 rfl) ?_
    refine lv_ifnullN (tgt := 17) X.1 X.2.1 dX8_countingRow_7 (by decide) ?_
    refine lv_null X.1 X.2.1 dX8_countingRow_17 ?_
    refine lv_goto (tgt := 27) X.1 X.2.1 dX8_countingRow_18 (by decide) ?_
    exact rN X hr hlk dX8_countingRow_27
  · skip
    have ho1 : 10 ≤ o1 ∧ o1 < 18 := b_X8_questionOf eo1
    refine lv_astore_n (lv' := [(3, .ref (G.2.2 o1)), (0, .ref (G.2.2 0)), (1, .int a1), (2, .int a2)]) X.1 X.2.1 dX8_countingRow_5 rfl hl (by decide) rfl (fun ls hl => ?_)
    refine lv_aload_n X.1 X.2.1 dX8_countingRow_6 rfl (lv_at hl 0 rfl) ?_
    refine lv_ifnull X.1 X.2.1 dX8_countingRow_7 ?_
    refine lv_aload_n X.1 X.2.1 dX8_countingRow_10 rfl (lv_at hl 0 rfl) ?_
    refine cVI [] [] X hw (c_X6_goodOnes l G A M o1 ho1) (cwV 0 X.2.2.2.2 gX8_countingRow_X6_goodOnes rfl rfl rfl (by decide +kernel) ⟨Nat.le_of_ble_eq_true rfl, Nat.le_of_ble_eq_true rfl⟩) (hw.recv (lt98 (by have h9 := ho1; omega)) (hk_Q ho1) rfl) rfl rfl hl.1 (Nat.le_of_ble_eq_true rfl) dX8_countingRow_11 ?_
    refine tni (fun r2 er2 => ?_)
    refine bz_ne (tgt := 21) X dX8_countingRow_14 (by decide) (fun c3 => ?_) (fun c3 => ?_)
    · skip
      have t4 : ¬ r2.toInt = 0 := i_ne c3
      refine lv_aload_n X.1 X.2.1 dX8_countingRow_21 rfl (lv_at hl 1 rfl) ?_
      refine lv_iload_n X.1 X.2.1 dX8_countingRow_22 rfl (lv_at hl 2 rfl) ?_
      refine lv_iload_n X.1 X.2.1 dX8_countingRow_23 rfl (lv_at hl 3 rfl) ?_
      refine cVO [.int a1, .int a2] [] X hw (c_X8_rowOf l G A M a1 a2) (cwV 2 X.2.2.2.2 gX8_countingRow_X8_rowOf rfl rfl rfl (by decide +kernel) ⟨Nat.le_of_ble_eq_true rfl, Nat.le_of_ble_eq_true rfl⟩) (hw.recv (by decide) hk_RB rfl) rfl rfl hl.1 (Nat.le_of_ble_eq_true rfl) dX8_countingRow_24 ?_
      refine tno (fun eo5 => ?_) (fun o5 eo5 => ?_)
      · skip
        exact rN X hr hlk dX8_countingRow_27
      · skip
        have ho5 : 34 ≤ o5 ∧ o5 < 66 := b_X8_rowOf eo5
        exact rR X hr hlk dX8_countingRow_27
    · skip
      have t6 : r2.toInt = 0 := i_eq c3
      refine lv_null X.1 X.2.1 dX8_countingRow_17 ?_
      refine lv_goto (tgt := 27) X.1 X.2.1 dX8_countingRow_18 (by decide) ?_
      exact rN X hr hlk dX8_countingRow_27
theorem b_X8_countingRow {M : Mem} {a1 a2 : Int32} {o : Nat} (h : f_X8_countingRow M a1 a2 = some o) : 34 ≤ o ∧ o < 66 := by
  unfold f_X8_countingRow at h
  cases hq : f_X8_questionOf a2 with
  | none => rw [hq] at h; cases h
  | some q =>
    rw [hq] at h
    have h2 : (if f_X6_goodOnes M q = 0 then none else oc (f_X8_rowOf M a1 a2) none (fun o => some o)) = some o := h
    by_cases c1 : f_X6_goodOnes M q = 0
    · rw [if_pos c1] at h2; cases h2
    · rw [if_neg c1] at h2
      cases hr : f_X8_rowOf M a1 a2 with
      | none => rw [hr] at h2; cases h2
      | some x => rw [hr] at h2; cases h2; exact b_X8_rowOf hr
