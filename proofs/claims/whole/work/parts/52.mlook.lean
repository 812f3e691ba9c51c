/-! 52.mlook -/
def f_X9_isQuestion (a1 : Int32) : Int32 := if a1 < 0 then 0 else (if (8 : Int32) ≤ a1 then 0 else 1)
set_option maxRecDepth 100000 in
set_option maxHeartbeats 4000000 in
theorem c_X9_isQuestion (l : Launch) (G : En) (A : Nat → Prop) (M : Mem) (a1 : Int32) : RdI false l yX9_isQuestion wsX9_isQuestion ({ frames := 0, cells := 0, slots := 0, locals := 0 }) G A M [.int a1] (f_X9_isQuestion a1) := by
  refine RdI.of (cc := cX9_isQuestion) (maxL := 1) (ret := (some .boolean)) (own := RX9) (by decide) rfl rfl (Nat.le_of_ble_eq_true rfl) ?_
  intro p e s m below meth c X hw hr hlk ls hl
  have hl : lv_has ls 1 [(0, .int a1)] := hl
  unfold f_X9_isQuestion
  refine lv_iload_n X.1 X.2.1 dX9_isQuestion_0 rfl (lv_at hl 0 rfl) ?_
  refine bz_lt (tgt := 14) X dX9_isQuestion_1 (by decide) (fun c1 => ?_) (fun c1 => ?_)
  · skip
    have t2 : a1.toInt < 0 := i_lt c1
    refine lv_iconst (v := 0) X.1 X.2.1 dX9_isQuestion_14 (by decide) ?_
    exact rZ X hr hlk rfl dX9_isQuestion_15
  · skip
    have t3 : 0 ≤ a1.toInt := i_nlt c1
    refine lv_iload_n X.1 X.2.1 dX9_isQuestion_4 rfl (lv_at hl 0 rfl) ?_
    refine lv_bipush (v := 8) X.1 X.2.1 dX9_isQuestion_5 (by decide) ?_
    refine bi_ge (tgt := 14) X dX9_isQuestion_7 (by decide) (fun c4 => ?_) (fun c4 => ?_)
    · skip
      have t5 : 8 ≤ a1.toInt := i_le c4
      refine lv_iconst (v := 0) X.1 X.2.1 dX9_isQuestion_14 (by decide) ?_
      exact rZ X hr hlk rfl dX9_isQuestion_15
    · skip
      have t6 : a1.toInt < 8 := i_nle c4
      refine lv_iconst (v := 1) X.1 X.2.1 dX9_isQuestion_10 (by decide) ?_
      refine lv_goto (tgt := 15) X.1 X.2.1 dX9_isQuestion_11 (by decide) ?_
      exact rZ X hr hlk rfl dX9_isQuestion_15
theorem q_or {r a : Int32} (e : r = f_X9_isQuestion a) : r.toInt = 0 ∨ (0 ≤ a.toInt ∧ a.toInt < 8) := by
  subst e
  unfold f_X9_isQuestion
  by_cases c1 : a < 0
  · rw [if_pos c1]; exact Or.inl rfl
  · rw [if_neg c1]
    by_cases c2 : 8 ≤ a
    · rw [if_pos c2]; exact Or.inl rfl
    · exact Or.inr ⟨i_nlt c1, i_nle c2⟩

def f_X9_isRanker (a1 : Int32) : Int32 := if a1 < 0 then 0 else (if (4 : Int32) ≤ a1 then 0 else 1)
set_option maxRecDepth 100000 in
set_option maxHeartbeats 4000000 in
theorem c_X9_isRanker (l : Launch) (G : En) (A : Nat → Prop) (M : Mem) (a1 : Int32) : RdI false l yX9_isRanker wsX9_isRanker ({ frames := 0, cells := 0, slots := 0, locals := 0 }) G A M [.int a1] (f_X9_isRanker a1) := by
  refine RdI.of (cc := cX9_isRanker) (maxL := 1) (ret := (some .boolean)) (own := RX9) (by decide) rfl rfl (Nat.le_of_ble_eq_true rfl) ?_
  intro p e s m below meth c X hw hr hlk ls hl
  have hl : lv_has ls 1 [(0, .int a1)] := hl
  unfold f_X9_isRanker
  refine lv_iload_n X.1 X.2.1 dX9_isRanker_0 rfl (lv_at hl 0 rfl) ?_
  refine bz_lt (tgt := 13) X dX9_isRanker_1 (by decide) (fun c1 => ?_) (fun c1 => ?_)
  · skip
    have t2 : a1.toInt < 0 := i_lt c1
    refine lv_iconst (v := 0) X.1 X.2.1 dX9_isRanker_13 (by decide) ?_
    exact rZ X hr hlk rfl dX9_isRanker_14
  · skip
    have t3 : 0 ≤ a1.toInt := i_nlt c1
    refine lv_iload_n X.1 X.2.1 dX9_isRanker_4 rfl (lv_at hl 0 rfl) ?_
    refine lv_iconst (v := 4) X.1 X.2.1 dX9_isRanker_5 (by decide) ?_
    refine bi_ge (tgt := 13) X dX9_isRanker_6 (by decide) (fun c4 => ?_) (fun c4 => ?_)
    · skip
      have t5 : 4 ≤ a1.toInt := i_le c4
      refine lv_iconst (v := 0) X.1 X.2.1 dX9_isRanker_13 (by decide) ?_
      exact rZ X hr hlk rfl dX9_isRanker_14
    · skip
      have t6 : a1.toInt < 4 := i_nle c4
      refine lv_iconst (v := 1) X.1 X.2.1 dX9_isRanker_9 (by decide) ?_
      refine lv_goto (tgt := 14) X.1 X.2.1 dX9_isRanker_10 (by decide) ?_
      exact rZ X hr hlk rfl dX9_isRanker_14
theorem rk_or {r a : Int32} (e : r = f_X9_isRanker a) : r.toInt = 0 ∨ (0 ≤ a.toInt ∧ a.toInt < 4) := by
  subst e
  unfold f_X9_isRanker
  by_cases c1 : a < 0
  · rw [if_pos c1]; exact Or.inl rfl
  · rw [if_neg c1]
    by_cases c2 : 4 ≤ a
    · rw [if_pos c2]; exact Or.inl rfl
    · exact Or.inr ⟨i_nlt c1, i_nle c2⟩

def f_X9_isDeep (a1 : Int32) : Int32 := if a1 < 1 then 0 else (if (16 : Int32) < a1 then 0 else 1)
set_option maxRecDepth 100000 in
set_option maxHeartbeats 4000000 in
theorem c_X9_isDeep (l : Launch) (G : En) (A : Nat → Prop) (M : Mem) (a1 : Int32) : RdI false l yX9_isDeep wsX9_isDeep ({ frames := 0, cells := 0, slots := 0, locals := 0 }) G A M [.int a1] (f_X9_isDeep a1) := by
  refine RdI.of (cc := cX9_isDeep) (maxL := 1) (ret := (some .boolean)) (own := RX9) (by decide) rfl rfl (Nat.le_of_ble_eq_true rfl) ?_
  intro p e s m below meth c X hw hr hlk ls hl
  have hl : lv_has ls 1 [(0, .int a1)] := hl
  unfold f_X9_isDeep
  refine lv_iload_n X.1 X.2.1 dX9_isDeep_0 rfl (lv_at hl 0 rfl) ?_
  refine lv_iconst (v := 1) X.1 X.2.1 dX9_isDeep_1 (by decide) ?_
  refine bi_lt (tgt := 15) X dX9_isDeep_2 (by decide) (fun c1 => ?_) (fun c1 => ?_)
  · skip
    have t2 : a1.toInt < 1 := i_lt c1
    refine lv_iconst (v := 0) X.1 X.2.1 dX9_isDeep_15 (by decide) ?_
    exact rZ X hr hlk rfl dX9_isDeep_16
  · skip
    have t3 : 1 ≤ a1.toInt := i_nlt c1
    refine lv_iload_n X.1 X.2.1 dX9_isDeep_5 rfl (lv_at hl 0 rfl) ?_
    refine lv_bipush (v := 16) X.1 X.2.1 dX9_isDeep_6 (by decide) ?_
    refine bi_gt (tgt := 15) X dX9_isDeep_8 (by decide) (fun c4 => ?_) (fun c4 => ?_)
    · skip
      have t5 : 16 < a1.toInt := i_lt c4
      refine lv_iconst (v := 0) X.1 X.2.1 dX9_isDeep_15 (by decide) ?_
      exact rZ X hr hlk rfl dX9_isDeep_16
    · skip
      have t6 : a1.toInt ≤ 16 := i_nlt c4
      refine lv_iconst (v := 1) X.1 X.2.1 dX9_isDeep_11 (by decide) ?_
      refine lv_goto (tgt := 16) X.1 X.2.1 dX9_isDeep_12 (by decide) ?_
      exact rZ X hr hlk rfl dX9_isDeep_16
theorem deep_or {r a : Int32} (e : r = f_X9_isDeep a) : r.toInt = 0 ∨ (1 ≤ a.toInt ∧ a.toInt ≤ 16) := by
  subst e
  unfold f_X9_isDeep
  by_cases c1 : a < 1
  · rw [if_pos c1]; exact Or.inl rfl
  · rw [if_neg c1]
    by_cases c2 : 16 < a
    · rw [if_pos c2]; exact Or.inl rfl
    · exact Or.inr ⟨i_nlt c1, i_nlt c2⟩

def f_X9_isRow (M : Mem) (a1 : Int32) (a2 : Int32) : Int32 := bnd (f_X9_isRanker a1) (fun r1 => if r1 = 0 then 0 else (bnd (f_X9_isQuestion a2) (fun r5 => if r5 = 0 then 0 else (if (M.1 4 ((8 * a1) + a2).toNatClampNeg) = 0 then 0 else 1))))
set_option maxRecDepth 100000 in
set_option maxHeartbeats 4000000 in
theorem c_X9_isRow (l : Launch) (G : En) (A : Nat → Prop) (M : Mem) (a1 : Int32) (a2 : Int32) : RdI false l yX9_isRow wsX9_isRow ({ frames := 1, cells := 0, slots := 0, locals := 20 }) G A M [.ref (G.2.2 0), .int a1, .int a2] (f_X9_isRow M a1 a2) := by
  refine RdI.of (cc := cX9_isRow) (maxL := 3) (ret := (some .boolean)) (own := RX9) (by decide) rfl rfl (Nat.le_of_ble_eq_true rfl) ?_
  intro p e s m below meth c X hw hr hlk ls hl
  have hl : lv_has ls 3 [(0, .ref (G.2.2 0)), (1, .int a1), (2, .int a2)] := hl
  unfold f_X9_isRow
  refine lv_iload_n X.1 X.2.1 dX9_isRow_0 rfl (lv_at hl 1 rfl) ?_
  refine cSI [.int a1] [] X hw (c_X9_isRanker l G A M a1) (va_cwS 1 X.2.2.2.2 gX9_isRow_X9_isRanker rfl rfl rfl (by decide +kernel) ⟨Nat.le_of_ble_eq_true rfl, Nat.le_of_ble_eq_true rfl⟩)  rfl rfl hl.1 (Nat.le_of_ble_eq_true rfl) dX9_isRow_1 ?_
  refine tni (fun r1 er1 => ?_)
  have zr1 := rk_or er1
  refine bz_eq (tgt := 32) X dX9_isRow_4 (by decide) (fun c2 => ?_) (fun c2 => ?_)
  · skip
    have t3 : r1.toInt = 0 := i_eq c2
    refine lv_iconst (v := 0) X.1 X.2.1 dX9_isRow_32 (by decide) ?_
    exact rZ X hr hlk rfl dX9_isRow_33
  · skip
    have t4 : ¬ r1.toInt = 0 := i_ne c2
    refine lv_iload_n X.1 X.2.1 dX9_isRow_7 rfl (lv_at hl 2 rfl) ?_
    refine cSI [.int a2] [] X hw (c_X9_isQuestion l G A M a2) (va_cwS 1 X.2.2.2.2 gX9_isRow_X9_isQuestion rfl rfl rfl (by decide +kernel) ⟨Nat.le_of_ble_eq_true rfl, Nat.le_of_ble_eq_true rfl⟩)  rfl rfl hl.1 (Nat.le_of_ble_eq_true rfl) dX9_isRow_8 ?_
    refine tni (fun r5 er5 => ?_)
    have zr5 := q_or er5
    refine bz_eq (tgt := 32) X dX9_isRow_11 (by decide) (fun c6 => ?_) (fun c6 => ?_)
    · skip
      have t7 : r5.toInt = 0 := i_eq c6
      refine lv_iconst (v := 0) X.1 X.2.1 dX9_isRow_32 (by decide) ?_
      exact rZ X hr hlk rfl dX9_isRow_33
    · skip
      have t8 : ¬ r5.toInt = 0 := i_ne c6
      refine lv_aload_n X.1 X.2.1 dX9_isRow_14 rfl (lv_at hl 0 rfl) ?_
      refine gF X hw (by decide) hm_MO rfl (by decide +kernel) 3 (by decide) (ref := "RankBenchModel") rfl (by decide +kernel) rfl dX9_isRow_15 ?_
      refine lv_bipush (v := 8) X.1 X.2.1 dX9_isRow_18 (by decide) ?_
      refine lv_iload_n X.1 X.2.1 dX9_isRow_20 rfl (lv_at hl 1 rfl) ?_
      refine lv_imul X.1 X.2.1 dX9_isRow_21 ?_
      refine lv_iload_n X.1 X.2.1 dX9_isRow_22 rfl (lv_at hl 2 rfl) ?_
      refine lv_iadd X.1 X.2.1 dX9_isRow_23 ?_
      have ix24 := ix8 (r := a1) (q := a2) (by omega) (by omega)
      refine aZ X hw (by decide) hm_mt (vp_in_iff.mpr ⟨by omega, by omega⟩) dX9_isRow_24 ?_
      refine bz_eq (tgt := 32) X dX9_isRow_25 (by decide) (fun c9 => ?_) (fun c9 => ?_)
      · skip
        have t10 : (M.1 4 ((8 * a1) + a2).toNatClampNeg).toInt = 0 := i_eq c9
        refine lv_iconst (v := 0) X.1 X.2.1 dX9_isRow_32 (by decide) ?_
        exact rZ X hr hlk rfl dX9_isRow_33
      · skip
        have t11 : ¬ (M.1 4 ((8 * a1) + a2).toNatClampNeg).toInt = 0 := i_ne c9
        refine lv_iconst (v := 1) X.1 X.2.1 dX9_isRow_28 (by decide) ?_
        refine lv_goto (tgt := 33) X.1 X.2.1 dX9_isRow_29 (by decide) ?_
        exact rZ X hr hlk rfl dX9_isRow_33
theorem row_or {M : Mem} {r a1 a2 : Int32} (e : r = f_X9_isRow M a1 a2) : r.toInt = 0 ∨ ((0 ≤ a1.toInt ∧ a1.toInt < 4) ∧ (0 ≤ a2.toInt ∧ a2.toInt < 8)) := by
  subst e
  unfold f_X9_isRow; dsimp only [bnd]
  by_cases c1 : f_X9_isRanker a1 = 0
  · rw [if_pos c1]; exact Or.inl rfl
  · rw [if_neg c1]
    by_cases c2 : f_X9_isQuestion a2 = 0
    · rw [if_pos c2]; exact Or.inl rfl
    · refine Or.inr ⟨?_, ?_⟩
      · rcases rk_or (a := a1) rfl with h | h
        · exact absurd (Int32.toInt_inj.mp h) c1
        · exact h
      · rcases q_or (a := a2) rfl with h | h
        · exact absurd (Int32.toInt_inj.mp h) c2
        · exact h

def f_X9_gradeOf (M : Mem) (a1 : Int32) (a2 : Int32) : Int32 := ((M.1 1 ((24 * a1) + a2).toNatClampNeg) - 1)
set_option maxRecDepth 100000 in
set_option maxHeartbeats 4000000 in
theorem c_X9_gradeOf (l : Launch) (G : En) (A : Nat → Prop) (M : Mem) (a1 : Int32) (a2 : Int32) (hqa : 0 ≤ a1.toInt ∧ a1.toInt < 8) (hda : 0 ≤ a2.toInt ∧ a2.toInt < 24) : RdI false l yX9_gradeOf wsX9_gradeOf ({ frames := 0, cells := 0, slots := 0, locals := 0 }) G A M [.ref (G.2.2 0), .int a1, .int a2] (f_X9_gradeOf M a1 a2) := by
  refine RdI.of (cc := cX9_gradeOf) (maxL := 3) (ret := (some .int)) (own := RX9) (by decide) rfl rfl (Nat.le_of_ble_eq_true rfl) ?_
  intro p e s m below meth c X hw hr hlk ls hl
  have hl : lv_has ls 3 [(0, .ref (G.2.2 0)), (1, .int a1), (2, .int a2)] := hl
  unfold f_X9_gradeOf
  refine lv_aload_n X.1 X.2.1 dX9_gradeOf_0 rfl (lv_at hl 0 rfl) ?_
  refine gF X hw (by decide) hm_MO rfl (by decide +kernel) 0 (by decide) (ref := "RankBenchModel") rfl (by decide +kernel) rfl dX9_gradeOf_1 ?_
  refine lv_bipush (v := 24) X.1 X.2.1 dX9_gradeOf_4 (by decide) ?_
  refine lv_iload_n X.1 X.2.1 dX9_gradeOf_6 rfl (lv_at hl 1 rfl) ?_
  refine lv_imul X.1 X.2.1 dX9_gradeOf_7 ?_
  refine lv_iload_n X.1 X.2.1 dX9_gradeOf_8 rfl (lv_at hl 2 rfl) ?_
  refine lv_iadd X.1 X.2.1 dX9_gradeOf_9 ?_
  have ix9 := ix24 (q := a1) (d := a2) hqa hda
  refine aI X hw (by decide) hm_mg (vp_in_iff.mpr ⟨by omega, by omega⟩) dX9_gradeOf_10 ?_
  refine lv_iconst (v := 1) X.1 X.2.1 dX9_gradeOf_11 (by decide) ?_
  refine lv_isub X.1 X.2.1 dX9_gradeOf_12 ?_
  exact rI X hr hlk dX9_gradeOf_13

def f_X9_isGood (M : Mem) (a1 : Int32) (a2 : Int32) : Int32 := bnd (f_X9_gradeOf M a1 a2) (fun r1 => if r1 ≤ 0 then 0 else 1)
set_option maxRecDepth 100000 in
set_option maxHeartbeats 4000000 in
theorem c_X9_isGood (l : Launch) (G : En) (A : Nat → Prop) (M : Mem) (a1 : Int32) (a2 : Int32) (hqa : 0 ≤ a1.toInt ∧ a1.toInt < 8) (hda : 0 ≤ a2.toInt ∧ a2.toInt < 24) : RdI false l yX9_isGood wsX9_isGood ({ frames := 1, cells := 0, slots := 0, locals := 22 }) G A M [.ref (G.2.2 0), .int a1, .int a2] (f_X9_isGood M a1 a2) := by
  refine RdI.of (cc := cX9_isGood) (maxL := 3) (ret := (some .boolean)) (own := RX9) (by decide) rfl rfl (Nat.le_of_ble_eq_true rfl) ?_
  intro p e s m below meth c X hw hr hlk ls hl
  have hl : lv_has ls 3 [(0, .ref (G.2.2 0)), (1, .int a1), (2, .int a2)] := hl
  unfold f_X9_isGood
  refine lv_aload_n X.1 X.2.1 dX9_isGood_0 rfl (lv_at hl 0 rfl) ?_
  refine lv_iload_n X.1 X.2.1 dX9_isGood_1 rfl (lv_at hl 1 rfl) ?_
  refine lv_iload_n X.1 X.2.1 dX9_isGood_2 rfl (lv_at hl 2 rfl) ?_
  refine cVI [.int a1, .int a2] [] X hw (c_X9_gradeOf l G A M a1 a2 (by omega) (by omega)) (cwV 2 X.2.2.2.2 gX9_isGood_X9_gradeOf rfl rfl rfl (by decide +kernel) ⟨Nat.le_of_ble_eq_true rfl, Nat.le_of_ble_eq_true rfl⟩) (hw.recv (by decide) hm_MO rfl) rfl rfl hl.1 (Nat.le_of_ble_eq_true rfl) dX9_isGood_3 ?_
  refine tni (fun r1 er1 => ?_)
  refine bz_le (tgt := 13) X dX9_isGood_6 (by decide) (fun c2 => ?_) (fun c2 => ?_)
  · skip
    have t3 : r1.toInt ≤ 0 := i_le c2
    refine lv_iconst (v := 0) X.1 X.2.1 dX9_isGood_13 (by decide) ?_
    exact rZ X hr hlk rfl dX9_isGood_14
  · skip
    have t4 : 0 < r1.toInt := i_nle c2
    refine lv_iconst (v := 1) X.1 X.2.1 dX9_isGood_9 (by decide) ?_
    refine lv_goto (tgt := 14) X.1 X.2.1 dX9_isGood_10 (by decide) ?_
    exact rZ X hr hlk rfl dX9_isGood_14

def f_X9_size (M : Mem) (a1 : Int32) (a2 : Int32) : Int32 := (M.1 3 ((8 * a1) + a2).toNatClampNeg)
set_option maxRecDepth 100000 in
set_option maxHeartbeats 4000000 in
theorem c_X9_size (l : Launch) (G : En) (A : Nat → Prop) (M : Mem) (a1 : Int32) (a2 : Int32) (hra : 0 ≤ a1.toInt ∧ a1.toInt < 4) (hqa : 0 ≤ a2.toInt ∧ a2.toInt < 8) : RdI false l yX9_size wsX9_size ({ frames := 0, cells := 0, slots := 0, locals := 0 }) G A M [.ref (G.2.2 0), .int a1, .int a2] (f_X9_size M a1 a2) := by
  refine RdI.of (cc := cX9_size) (maxL := 3) (ret := (some .int)) (own := RX9) (by decide) rfl rfl (Nat.le_of_ble_eq_true rfl) ?_
  intro p e s m below meth c X hw hr hlk ls hl
  have hl : lv_has ls 3 [(0, .ref (G.2.2 0)), (1, .int a1), (2, .int a2)] := hl
  unfold f_X9_size
  refine lv_aload_n X.1 X.2.1 dX9_size_0 rfl (lv_at hl 0 rfl) ?_
  refine gF X hw (by decide) hm_MO rfl (by decide +kernel) 2 (by decide) (ref := "RankBenchModel") rfl (by decide +kernel) rfl dX9_size_1 ?_
  refine lv_bipush (v := 8) X.1 X.2.1 dX9_size_4 (by decide) ?_
  refine lv_iload_n X.1 X.2.1 dX9_size_6 rfl (lv_at hl 1 rfl) ?_
  refine lv_imul X.1 X.2.1 dX9_size_7 ?_
  refine lv_iload_n X.1 X.2.1 dX9_size_8 rfl (lv_at hl 2 rfl) ?_
  refine lv_iadd X.1 X.2.1 dX9_size_9 ?_
  have ix9 := ix8 (r := a1) (q := a2) hra hqa
  refine aI X hw (by decide) hm_ms (vp_in_iff.mpr ⟨by omega, by omega⟩) dX9_size_10 ?_
  exact rI X hr hlk dX9_size_11
theorem cl8 {r q : Int32} (hr : 0 ≤ r.toInt ∧ r.toInt < 4) (hq : 0 ≤ q.toInt ∧ q.toInt < 8) : (8 * r + q).toNatClampNeg < 32 := clampN (by rw [ix8 hr hq]; omega) (by rw [ix8 hr hq]; omega)
theorem g_X9_size {M : Mem} {s a1 a2 : Int32} (h : okB false M) (e : s = f_X9_size M a1 a2) (hr : 0 ≤ a1.toInt ∧ a1.toInt < 4) (hq : 0 ≤ a2.toInt ∧ a2.toInt < 8) : 0 ≤ s.toInt ∧ s.toInt ≤ 16 := by
  subst e
  exact h.1 _ (cl8 hr hq)

def f_X9_doc (M : Mem) (a1 : Int32) (a2 : Int32) (a3 : Int32) : Int32 := (M.1 2 ((16 * ((8 * a1) + a2)) + a3).toNatClampNeg)
set_option maxRecDepth 100000 in
set_option maxHeartbeats 4000000 in
theorem c_X9_doc (l : Launch) (G : En) (A : Nat → Prop) (M : Mem) (a1 : Int32) (a2 : Int32) (a3 : Int32) (hra : 0 ≤ a1.toInt ∧ a1.toInt < 4) (hqa : 0 ≤ a2.toInt ∧ a2.toInt < 8) (hia : 0 ≤ a3.toInt ∧ a3.toInt < 16) : RdI false l yX9_doc wsX9_doc ({ frames := 0, cells := 0, slots := 0, locals := 0 }) G A M [.ref (G.2.2 0), .int a1, .int a2, .int a3] (f_X9_doc M a1 a2 a3) := by
  refine RdI.of (cc := cX9_doc) (maxL := 4) (ret := (some .int)) (own := RX9) (by decide) rfl rfl (Nat.le_of_ble_eq_true rfl) ?_
  intro p e s m below meth c X hw hr hlk ls hl
  have hl : lv_has ls 4 [(0, .ref (G.2.2 0)), (1, .int a1), (2, .int a2), (3, .int a3)] := hl
  unfold f_X9_doc
  refine lv_aload_n X.1 X.2.1 dX9_doc_0 rfl (lv_at hl 0 rfl) ?_
  refine gF X hw (by decide) hm_MO rfl (by decide +kernel) 1 (by decide) (ref := "RankBenchModel") rfl (by decide +kernel) rfl dX9_doc_1 ?_
  refine lv_bipush (v := 16) X.1 X.2.1 dX9_doc_4 (by decide) ?_
  refine lv_bipush (v := 8) X.1 X.2.1 dX9_doc_6 (by decide) ?_
  refine lv_iload_n X.1 X.2.1 dX9_doc_8 rfl (lv_at hl 1 rfl) ?_
  refine lv_imul X.1 X.2.1 dX9_doc_9 ?_
  refine lv_iload_n X.1 X.2.1 dX9_doc_10 rfl (lv_at hl 2 rfl) ?_
  refine lv_iadd X.1 X.2.1 dX9_doc_11 ?_
  refine lv_imul X.1 X.2.1 dX9_doc_12 ?_
  refine lv_iload_n X.1 X.2.1 dX9_doc_13 rfl (lv_at hl 3 rfl) ?_
  refine lv_iadd X.1 X.2.1 dX9_doc_14 ?_
  have ix9 := ix8 (r := a1) (q := a2) hra hqa
  have ix10 := ix16 (k := 8 * a1 + a2) (i := a3) (by omega) hia
  refine aI X hw (by decide) hm_mr (vp_in_iff.mpr ⟨by omega, by omega⟩) dX9_doc_15 ?_
  exact rI X hr hlk dX9_doc_16
theorem g_X9_doc {M : Mem} {s a1 a2 a3 : Int32} (h : okB false M) (e : s = f_X9_doc M a1 a2 a3) (hr : 0 ≤ a1.toInt ∧ a1.toInt < 4) (hq : 0 ≤ a2.toInt ∧ a2.toInt < 8) (hi : 0 ≤ a3.toInt ∧ a3.toInt < 16) : 0 ≤ s.toInt ∧ s.toInt ≤ 23 := by
  subst e
  have e1 := ix8 hr hq
  have e2 := ix16 (k := 8 * a1 + a2) (i := a3) (by omega) hi
  exact h.2.1 _ (clampN (by omega) (by omega))

def f_X9_grade (M : Mem) (a1 : Int32) (a2 : Int32) (a3 : Int32) : Int32 × Mem := bnd (f_X9_isQuestion a1) (fun r1 => if r1 = 0 then ((-1), M) else (if a2 < 0 then ((-1), M) else (if a2 ≤ 23 then (if a3 < (-1) then ((-2), M) else (if a3 ≤ 3 then (bnd (f_X9_gradeOf M a1 a2) (fun r15 => bnd (a3 + 1) (fun x16 => bnd (ui M 1 ((24 * a1) + a2).toNatClampNeg x16) (fun M18 => ((r15 + 10), M18))))) else ((-2), M))) else ((-1), M))))
set_option maxRecDepth 100000 in
set_option maxHeartbeats 4000000 in
theorem c_X9_grade (l : Launch) (G : En) (A : Nat → Prop) (M : Mem) (a1 : Int32) (a2 : Int32) (a3 : Int32) : WrI false l yX9_grade wsX9_grade ({ frames := 1, cells := 0, slots := 0, locals := 22 }) G A M [.ref (G.2.2 0), .int a1, .int a2, .int a3] (f_X9_grade M a1 a2 a3) := by
  refine WrI.of (cc := cX9_grade) (maxL := 5) (ret := (some .int)) (own := RX9) (by decide) rfl rfl (Nat.le_of_ble_eq_true rfl) ?_
  intro p e s m below meth c X hw hr hlk ls hl hS
  have hl : lv_has ls 5 [(0, .ref (G.2.2 0)), (1, .int a1), (2, .int a2), (3, .int a3)] := hl
  unfold f_X9_grade
  refine lv_iload_n X.1 X.2.1 dX9_grade_0 rfl (lv_at hl 1 rfl) ?_
  refine cSI [.int a1] [] X hw (c_X9_isQuestion l G A M a1) (va_cwS 1 X.2.2.2.2 gX9_grade_X9_isQuestion rfl rfl rfl (by decide +kernel) ⟨Nat.le_of_ble_eq_true rfl, Nat.le_of_ble_eq_true rfl⟩)  rfl rfl hl.1 (Nat.le_of_ble_eq_true rfl) dX9_grade_1 ?_
  refine tni (fun r1 er1 => ?_)
  have zr1 := q_or er1
  refine bz_eq (tgt := 17) X dX9_grade_4 (by decide) (fun c2 => ?_) (fun c2 => ?_)
  · skip
    have t3 : r1.toInt = 0 := i_eq c2
    refine lv_iconst (v := (-1)) X.1 X.2.1 dX9_grade_17 (by decide) ?_
    exact rQ X hr hlk hw hS dX9_grade_18
  · skip
    have t4 : ¬ r1.toInt = 0 := i_ne c2
    refine lv_iload_n X.1 X.2.1 dX9_grade_7 rfl (lv_at hl 2 rfl) ?_
    refine bz_lt (tgt := 17) X dX9_grade_8 (by decide) (fun c5 => ?_) (fun c5 => ?_)
    · skip
      have t6 : a2.toInt < 0 := i_lt c5
      refine lv_iconst (v := (-1)) X.1 X.2.1 dX9_grade_17 (by decide) ?_
      exact rQ X hr hlk hw hS dX9_grade_18
    · skip
      have t7 : 0 ≤ a2.toInt := i_nlt c5
      refine lv_iload_n X.1 X.2.1 dX9_grade_11 rfl (lv_at hl 2 rfl) ?_
      refine lv_bipush (v := 23) X.1 X.2.1 dX9_grade_12 (by decide) ?_
      refine bi_le (tgt := 19) X dX9_grade_14 (by decide) (fun c8 => ?_) (fun c8 => ?_)
      · skip
        have t9 : a2.toInt ≤ 23 := i_le c8
        refine lv_iload_n X.1 X.2.1 dX9_grade_19 rfl (lv_at hl 3 rfl) ?_
        refine lv_iconst (v := (-1)) X.1 X.2.1 dX9_grade_20 (by decide) ?_
        refine bi_lt (tgt := 29) X dX9_grade_21 (by decide) (fun c10 => ?_) (fun c10 => ?_)
        · skip
          have t11 : a3.toInt < -1 := i_lt c10
          refine lv_bipush (v := (-2)) X.1 X.2.1 dX9_grade_29 (by decide) ?_
          exact rQ X hr hlk hw hS dX9_grade_31
        · skip
          have t12 : -1 ≤ a3.toInt := i_nlt c10
          refine lv_iload_n X.1 X.2.1 dX9_grade_24 rfl (lv_at hl 3 rfl) ?_
          refine lv_iconst (v := 3) X.1 X.2.1 dX9_grade_25 (by decide) ?_
          refine bi_le (tgt := 32) X dX9_grade_26 (by decide) (fun c13 => ?_) (fun c13 => ?_)
          · skip
            have t14 : a3.toInt ≤ 3 := i_le c13
            refine lv_aload_n X.1 X.2.1 dX9_grade_32 rfl (lv_at hl 0 rfl) ?_
            refine lv_iload_n X.1 X.2.1 dX9_grade_33 rfl (lv_at hl 1 rfl) ?_
            refine lv_iload_n X.1 X.2.1 dX9_grade_34 rfl (lv_at hl 2 rfl) ?_
            refine cVI [.int a1, .int a2] [] X hw (c_X9_gradeOf l G A M a1 a2 (by omega) (by omega)) (cwV 2 X.2.2.2.2 gX9_grade_X9_gradeOf rfl rfl rfl (by decide +kernel) ⟨Nat.le_of_ble_eq_true rfl, Nat.le_of_ble_eq_true rfl⟩) (hw.recv (by decide) hm_MO rfl) rfl rfl hl.1 (Nat.le_of_ble_eq_true rfl) dX9_grade_35 ?_
            refine tni (fun r15 er15 => ?_)
            refine lv_istore (lv' := [(4, .int r15), (0, .ref (G.2.2 0)), (1, .int a1), (2, .int a2), (3, .int a3)]) X.1 X.2.1 dX9_grade_38 hl (by decide) rfl (fun ls hl => ?_)
            refine lv_aload_n X.1 X.2.1 dX9_grade_40 rfl (lv_at hl 1 rfl) ?_
            refine gF X hw (by decide) hm_MO rfl (by decide +kernel) 0 (by decide) (ref := "RankBenchModel") rfl (by decide +kernel) rfl dX9_grade_41 ?_
            refine lv_bipush (v := 24) X.1 X.2.1 dX9_grade_44 (by decide) ?_
            refine lv_iload_n X.1 X.2.1 dX9_grade_46 rfl (lv_at hl 2 rfl) ?_
            refine lv_imul X.1 X.2.1 dX9_grade_47 ?_
            refine lv_iload_n X.1 X.2.1 dX9_grade_48 rfl (lv_at hl 3 rfl) ?_
            refine lv_iadd X.1 X.2.1 dX9_grade_49 ?_
            refine lv_iload_n X.1 X.2.1 dX9_grade_50 rfl (lv_at hl 4 rfl) ?_
            refine lv_iconst (v := 1) X.1 X.2.1 dX9_grade_51 (by decide) ?_
            refine lv_iadd X.1 X.2.1 dX9_grade_52 ?_
            have ix9 := ix24 (q := a1) (d := a2) (by omega) (by omega)
            refine tni (fun x16 ex16 => ?_)
            have q17 := inc_sp a3
            rw [← ex16] at q17
            have ix9 := ix24 (q := a1) (d := a2) (by omega) (by omega)
            refine sI X hw hS (ui M 1 ((24 * a1) + a2).toNatClampNeg x16) (by decide) hm_mg (vp_in_iff.mpr ⟨by omega, by omega⟩) (by rw [hm_mg, ui_same]) (fun j hj => ui_ne hj) (fun j hj => rfl) (okM_ui hw.2.2.2.2 (Or.inl (by decide))) dX9_grade_53 (fun H locs hw hS => ?_)
            refine tpb (fun M18 eM18 => ?_)
            rw [← eM18] at hw
            refine lv_iload X.1 X.2.1 dX9_grade_54 (lv_at hl 0 rfl) ?_
            refine lv_bipush (v := 10) X.1 X.2.1 dX9_grade_56 (by decide) ?_
            refine lv_iadd X.1 X.2.1 dX9_grade_58 ?_
            exact rQ X hr hlk hw hS dX9_grade_59
          · skip
            have t19 : 3 < a3.toInt := i_nle c13
            refine lv_bipush (v := (-2)) X.1 X.2.1 dX9_grade_29 (by decide) ?_
            exact rQ X hr hlk hw hS dX9_grade_31
      · skip
        have t20 : 23 < a2.toInt := i_nle c8
        refine lv_iconst (v := (-1)) X.1 X.2.1 dX9_grade_17 (by decide) ?_
        exact rQ X hr hlk hw hS dX9_grade_18

def f_X9_find_3 : Nat → Mem → Int32 → Int32 → Int32 → Int32 → Int32
  | 0, M, _, _, _, _ => 0
  | n1 + 1, M, v1, v2, v3, v4 => bnd (f_X9_size M v1 v2) (fun r1 => if r1 ≤ v4 then v4 else (bnd (f_X9_doc M v1 v2 v4) (fun r5 => if r5 = v3 then v4 else (f_X9_find_3 n1 M v1 v2 v3 (v4 + 1)))))
def f_X9_find (M : Mem) (a1 : Int32) (a2 : Int32) (a3 : Int32) : Int32 := f_X9_find_3 17 M a1 a2 a3 0
set_option maxRecDepth 100000 in
set_option maxHeartbeats 4000000 in
theorem c_X9_find (l : Launch) (G : En) (A : Nat → Prop) (M : Mem) (a1 : Int32) (a2 : Int32) (a3 : Int32) (hra : 0 ≤ a1.toInt ∧ a1.toInt < 4) (hqa : 0 ≤ a2.toInt ∧ a2.toInt < 8) : RdI false l yX9_find wsX9_find ({ frames := 1, cells := 0, slots := 0, locals := 23 }) G A M [.ref (G.2.2 0), .int a1, .int a2, .int a3] (f_X9_find M a1 a2 a3) := by
  refine RdI.of (cc := cX9_find) (maxL := 5) (ret := (some .int)) (own := RX9) (by decide) rfl rfl (Nat.le_of_ble_eq_true rfl) ?_
  intro p e s m below meth c X hw hr hlk ls hl
  have hl : lv_has ls 5 [(0, .ref (G.2.2 0)), (1, .int a1), (2, .int a2), (3, .int a3)] := hl
  unfold f_X9_find
  refine lv_iconst (v := 0) X.1 X.2.1 dX9_find_0 (by decide) ?_
  refine lv_istore (lv' := [(4, .int 0), (0, .ref (G.2.2 0)), (1, .int a1), (2, .int a2), (3, .int a3)]) X.1 X.2.1 dX9_find_1 hl (by decide) rfl (fun ls hl => ?_)
  have L1 : ∀ (n1 : Nat) (v1 : Int32) (v2 : Int32) (v3 : Int32) (v4 : Int32)  (hm1 : (16 - v4.toInt : Int).toNat < n1) (hi1_0 : 0 ≤ v4.toInt) (hi1_1 : 0 ≤ v1.toInt ∧ v1.toInt < 4) (hi1_2 : 0 ≤ v2.toInt ∧ v2.toInt < 8), ∀ ls : Array Slot, lv_has ls 5 [(0, .ref (G.2.2 0)), (1, .int v1), (2, .int v2), (3, .int v3), (4, .int v4)] → W p l e ({ frames := 1, cells := 0, slots := 0, locals := 23 } : Room) s m ([.ref (G.2.2 0), .int a1, .int a2, .int a3] : List Value).toArray below meth c s.heap [] 0 0 (TSi below ([.ref (G.2.2 0), .int a1, .int a2, .int a3] : List Value).toArray s (f_X9_find_3 n1 M v1 v2 v3 v4)) (F0 m 3 ls []) := by
    intro n1
    induction n1 with
    | zero => intro v1 v2 v3 v4 hm1 hi1_0 hi1_1 hi1_2; exact absurd hm1 (by omega)
    | succ n1 ih1 =>
      intro v1 v2 v3 v4 hm1 hi1_0 hi1_1 hi1_2 ls hl
      rw [f_X9_find_3]
      refine lv_iload X.1 X.2.1 dX9_find_3 (lv_at hl 4 rfl) ?_
      refine lv_aload_n X.1 X.2.1 dX9_find_5 rfl (lv_at hl 0 rfl) ?_
      refine lv_iload_n X.1 X.2.1 dX9_find_6 rfl (lv_at hl 1 rfl) ?_
      refine lv_iload_n X.1 X.2.1 dX9_find_7 rfl (lv_at hl 2 rfl) ?_
      refine cVI [.int v1, .int v2] [.int v4] X hw (c_X9_size l G A M v1 v2 (by omega) (by omega)) (cwV 2 X.2.2.2.2 gX9_find_X9_size rfl rfl rfl (by decide +kernel) ⟨Nat.le_of_ble_eq_true rfl, Nat.le_of_ble_eq_true rfl⟩) (hw.recv (by decide) hm_MO rfl) rfl rfl hl.1 (Nat.le_of_ble_eq_true rfl) dX9_find_8 ?_
      refine tni (fun r1 er1 => ?_)
      have zr1 := g_X9_size hw.2.2.2.2 er1 (by omega) (by omega)
      refine bi_ge (tgt := 32) X dX9_find_11 (by decide) (fun c2 => ?_) (fun c2 => ?_)
      · skip
        have t3 : r1.toInt ≤ v4.toInt := i_le c2
        refine lv_iload X.1 X.2.1 dX9_find_32 (lv_at hl 4 rfl) ?_
        exact rI X hr hlk dX9_find_34
      · skip
        have t4 : v4.toInt < r1.toInt := i_nle c2
        refine lv_aload_n X.1 X.2.1 dX9_find_14 rfl (lv_at hl 0 rfl) ?_
        refine lv_iload_n X.1 X.2.1 dX9_find_15 rfl (lv_at hl 1 rfl) ?_
        refine lv_iload_n X.1 X.2.1 dX9_find_16 rfl (lv_at hl 2 rfl) ?_
        refine lv_iload X.1 X.2.1 dX9_find_17 (lv_at hl 4 rfl) ?_
        refine cVI [.int v1, .int v2, .int v4] [] X hw (c_X9_doc l G A M v1 v2 v4 (by omega) (by omega) (by omega)) (cwV 3 X.2.2.2.2 gX9_find_X9_doc rfl rfl rfl (by decide +kernel) ⟨Nat.le_of_ble_eq_true rfl, Nat.le_of_ble_eq_true rfl⟩) (hw.recv (by decide) hm_MO rfl) rfl rfl hl.1 (Nat.le_of_ble_eq_true rfl) dX9_find_19 ?_
        refine tni (fun r5 er5 => ?_)
        have zr5 := g_X9_doc hw.2.2.2.2 er5 (by omega) (by omega) (by omega)
        refine lv_iload_n X.1 X.2.1 dX9_find_22 rfl (lv_at hl 3 rfl) ?_
        refine bi_eq (tgt := 32) X dX9_find_23 (by decide) (fun c6 => ?_) (fun c6 => ?_)
        · skip
          have t7 : r5.toInt = v3.toInt := i_eq c6
          refine lv_iload X.1 X.2.1 dX9_find_32 (lv_at hl 4 rfl) ?_
          exact rI X hr hlk dX9_find_34
        · skip
          have t8 : ¬ r5.toInt = v3.toInt := i_ne c6
          refine lv_iinc (v := (v4 + 1)) (lv' := [(4, .int (v4 + 1)), (0, .ref (G.2.2 0)), (1, .int v1), (2, .int v2), (3, .int v3)]) X.1 X.2.1 dX9_find_26 hl (k := 4) rfl rfl (by decide) rfl (fun ls hl => ?_)
          refine lv_goto (tgt := 3) X.1 X.2.1 dX9_find_29 (by decide) ?_
          have q9 := inc_sp v4
          exact ih1 v1 v2 v3 (v4 + 1) (by omega) (by omega) (by omega) (by omega)  ls (lv_sub hl [1, 2, 3, 4, 0] rfl)
  exact L1 17 a1 a2 a3 0 (by decide) (by first | omega | decide) (by first | omega | decide) (by first | omega | decide)  ls (lv_sub hl [1, 2, 3, 4, 0] rfl)
