/-! 15.mix -/
def f_X4_firstClicks (M : Mem) : Int32 := (M.1 7 4)
set_option maxRecDepth 100000 in
set_option maxHeartbeats 4000000 in
theorem c_X4_firstClicks (l : Launch) (G : En) (A : Nat → Prop) (M : Mem)  : RdI true l yX4_firstClicks wsX4_firstClicks ({ frames := 0, cells := 0, slots := 0, locals := 0 }) G A M [.ref (G.2.2 7)] (f_X4_firstClicks M) := by
  refine RdI.of (cc := cX4_firstClicks) (maxL := 1) (ret := (some .int)) (own := RX4) (by decide) rfl rfl (Nat.le_of_ble_eq_true rfl) ?_
  intro p e s m below meth c X hw hr hlk ls hl
  have hl : lv_has ls 1 [(0, .ref (G.2.2 7))] := hl
  unfold f_X4_firstClicks
  refine lv_aload_n X.1 X.2.1 dX4_firstClicks_0 rfl (lv_at hl 0 rfl) ?_
  refine gF X hw (by decide) hk_Mx rfl (by decide +kernel) 4 (by decide) (ref := "RankBench$Mix") rfl (by decide +kernel) rfl dX4_firstClicks_1 ?_
  exact rI X hr hlk dX4_firstClicks_4

def f_X4_secondClicks (M : Mem) : Int32 := (M.1 7 5)
set_option maxRecDepth 100000 in
set_option maxHeartbeats 4000000 in
theorem c_X4_secondClicks (l : Launch) (G : En) (A : Nat → Prop) (M : Mem)  : RdI true l yX4_secondClicks wsX4_secondClicks ({ frames := 0, cells := 0, slots := 0, locals := 0 }) G A M [.ref (G.2.2 7)] (f_X4_secondClicks M) := by
  refine RdI.of (cc := cX4_secondClicks) (maxL := 1) (ret := (some .int)) (own := RX4) (by decide) rfl rfl (Nat.le_of_ble_eq_true rfl) ?_
  intro p e s m below meth c X hw hr hlk ls hl
  have hl : lv_has ls 1 [(0, .ref (G.2.2 7))] := hl
  unfold f_X4_secondClicks
  refine lv_aload_n X.1 X.2.1 dX4_secondClicks_0 rfl (lv_at hl 0 rfl) ?_
  refine gF X hw (by decide) hk_Mx rfl (by decide +kernel) 5 (by decide) (ref := "RankBench$Mix") rfl (by decide +kernel) rfl dX4_secondClicks_1 ?_
  exact rI X hr hlk dX4_secondClicks_4

def f_X4_documentAt (M : Mem) (a1 : Int32) : Int32 := if a1 < 0 then (-1) else (if (M.1 7 2) ≤ a1 then (-1) else (if (16 : Int32) ≤ a1 then (-1) else (M.1 8 a1.toNatClampNeg)))
set_option maxRecDepth 100000 in
set_option maxHeartbeats 4000000 in
theorem c_X4_documentAt (l : Launch) (G : En) (A : Nat → Prop) (M : Mem) (a1 : Int32) : RdI true l yX4_documentAt wsX4_documentAt ({ frames := 0, cells := 0, slots := 0, locals := 0 }) G A M [.ref (G.2.2 7), .int a1] (f_X4_documentAt M a1) := by
  refine RdI.of (cc := cX4_documentAt) (maxL := 2) (ret := (some .int)) (own := RX4) (by decide) rfl rfl (Nat.le_of_ble_eq_true rfl) ?_
  intro p e s m below meth c X hw hr hlk ls hl
  have hl : lv_has ls 2 [(0, .ref (G.2.2 7)), (1, .int a1)] := hl
  unfold f_X4_documentAt
  refine lv_iload_n X.1 X.2.1 dX4_documentAt_0 rfl (lv_at hl 1 rfl) ?_
  refine bz_lt (tgt := 27) X dX4_documentAt_1 (by decide) (fun c1 => ?_) (fun c1 => ?_)
  · skip
    have t2 : a1.toInt < 0 := i_lt c1
    refine lv_iconst (v := (-1)) X.1 X.2.1 dX4_documentAt_27 (by decide) ?_
    exact rI X hr hlk dX4_documentAt_28
  · skip
    have t3 : 0 ≤ a1.toInt := i_nlt c1
    refine lv_iload_n X.1 X.2.1 dX4_documentAt_4 rfl (lv_at hl 1 rfl) ?_
    refine lv_aload_n X.1 X.2.1 dX4_documentAt_5 rfl (lv_at hl 0 rfl) ?_
    refine gF X hw (by decide) hk_Mx rfl (by decide +kernel) 2 (by decide) (ref := "RankBench$Mix") rfl (by decide +kernel) rfl dX4_documentAt_6 ?_
    refine bi_ge (tgt := 27) X dX4_documentAt_9 (by decide) (fun c4 => ?_) (fun c4 => ?_)
    · skip
      have t5 : (M.1 7 2).toInt ≤ a1.toInt := i_le c4
      refine lv_iconst (v := (-1)) X.1 X.2.1 dX4_documentAt_27 (by decide) ?_
      exact rI X hr hlk dX4_documentAt_28
    · skip
      have t6 : a1.toInt < (M.1 7 2).toInt := i_nle c4
      refine lv_iload_n X.1 X.2.1 dX4_documentAt_12 rfl (lv_at hl 1 rfl) ?_
      refine lv_bipush (v := 16) X.1 X.2.1 dX4_documentAt_13 (by decide) ?_
      refine bi_ge (tgt := 27) X dX4_documentAt_15 (by decide) (fun c7 => ?_) (fun c7 => ?_)
      · skip
        have t8 : 16 ≤ a1.toInt := i_le c7
        refine lv_iconst (v := (-1)) X.1 X.2.1 dX4_documentAt_27 (by decide) ?_
        exact rI X hr hlk dX4_documentAt_28
      · skip
        have t9 : a1.toInt < 16 := i_nle c7
        refine lv_aload_n X.1 X.2.1 dX4_documentAt_18 rfl (lv_at hl 0 rfl) ?_
        refine gF X hw (by decide) hk_Mx rfl (by decide +kernel) 0 (by decide) (ref := "RankBench$Mix") rfl (by decide +kernel) rfl dX4_documentAt_19 ?_
        refine lv_iload_n X.1 X.2.1 dX4_documentAt_22 rfl (lv_at hl 1 rfl) ?_
        refine aI X hw (by decide) hk_Md (vp_in_iff.mpr ⟨by omega, by omega⟩) dX4_documentAt_23 ?_
        refine lv_goto (tgt := 28) X.1 X.2.1 dX4_documentAt_24 (by decide) ?_
        exact rI X hr hlk dX4_documentAt_28

def f_X4_isFromSecond (M : Mem) (a1 : Int32) : Int32 := if a1 < 0 then 0 else (if (16 : Int32) ≤ a1 then 0 else (if (M.1 9 a1.toNatClampNeg) = 0 then 0 else 1))
set_option maxRecDepth 100000 in
set_option maxHeartbeats 4000000 in
theorem c_X4_isFromSecond (l : Launch) (G : En) (A : Nat → Prop) (M : Mem) (a1 : Int32) : RdI true l yX4_isFromSecond wsX4_isFromSecond ({ frames := 0, cells := 0, slots := 0, locals := 0 }) G A M [.ref (G.2.2 7), .int a1] (f_X4_isFromSecond M a1) := by
  refine RdI.of (cc := cX4_isFromSecond) (maxL := 2) (ret := (some .boolean)) (own := RX4) (by decide) rfl rfl (Nat.le_of_ble_eq_true rfl) ?_
  intro p e s m below meth c X hw hr hlk ls hl
  have hl : lv_has ls 2 [(0, .ref (G.2.2 7)), (1, .int a1)] := hl
  unfold f_X4_isFromSecond
  refine lv_iload_n X.1 X.2.1 dX4_isFromSecond_0 rfl (lv_at hl 1 rfl) ?_
  refine bz_lt (tgt := 23) X dX4_isFromSecond_1 (by decide) (fun c1 => ?_) (fun c1 => ?_)
  · skip
    have t2 : a1.toInt < 0 := i_lt c1
    refine lv_iconst (v := 0) X.1 X.2.1 dX4_isFromSecond_23 (by decide) ?_
    exact rZ X hr hlk rfl dX4_isFromSecond_24
  · skip
    have t3 : 0 ≤ a1.toInt := i_nlt c1
    refine lv_iload_n X.1 X.2.1 dX4_isFromSecond_4 rfl (lv_at hl 1 rfl) ?_
    refine lv_bipush (v := 16) X.1 X.2.1 dX4_isFromSecond_5 (by decide) ?_
    refine bi_ge (tgt := 23) X dX4_isFromSecond_7 (by decide) (fun c4 => ?_) (fun c4 => ?_)
    · skip
      have t5 : 16 ≤ a1.toInt := i_le c4
      refine lv_iconst (v := 0) X.1 X.2.1 dX4_isFromSecond_23 (by decide) ?_
      exact rZ X hr hlk rfl dX4_isFromSecond_24
    · skip
      have t6 : a1.toInt < 16 := i_nle c4
      refine lv_aload_n X.1 X.2.1 dX4_isFromSecond_10 rfl (lv_at hl 0 rfl) ?_
      refine gF X hw (by decide) hk_Mx rfl (by decide +kernel) 1 (by decide) (ref := "RankBench$Mix") rfl (by decide +kernel) rfl dX4_isFromSecond_11 ?_
      refine lv_iload_n X.1 X.2.1 dX4_isFromSecond_14 rfl (lv_at hl 1 rfl) ?_
      refine aZ X hw (by decide) hk_Mf (vp_in_iff.mpr ⟨by omega, by omega⟩) dX4_isFromSecond_15 ?_
      refine bz_eq (tgt := 23) X dX4_isFromSecond_16 (by decide) (fun c7 => ?_) (fun c7 => ?_)
      · skip
        have t8 : (M.1 9 a1.toNatClampNeg).toInt = 0 := i_eq c7
        refine lv_iconst (v := 0) X.1 X.2.1 dX4_isFromSecond_23 (by decide) ?_
        exact rZ X hr hlk rfl dX4_isFromSecond_24
      · skip
        have t9 : ¬ (M.1 9 a1.toNatClampNeg).toInt = 0 := i_ne c7
        refine lv_iconst (v := 1) X.1 X.2.1 dX4_isFromSecond_19 (by decide) ?_
        refine lv_goto (tgt := 24) X.1 X.2.1 dX4_isFromSecond_20 (by decide) ?_
        exact rZ X hr hlk rfl dX4_isFromSecond_24

def f_X4_clickChance (a1 : Int32) : Int32 := bnd (a1 + 1) (fun x1 => if x1 < 0 then 0 else (if (5 : Int32) ≤ x1 then 0 else (clI x1.toNatClampNeg)))
set_option maxRecDepth 100000 in
set_option maxHeartbeats 4000000 in
theorem c_X4_clickChance (l : Launch) (G : En) (A : Nat → Prop) (M : Mem) (a1 : Int32) : RdI true l yX4_clickChance wsX4_clickChance ({ frames := 0, cells := 0, slots := 0, locals := 0 }) G A M [.int a1] (f_X4_clickChance a1) := by
  refine RdI.of (cc := cX4_clickChance) (maxL := 2) (ret := (some .int)) (own := RX4) (by decide) rfl rfl (Nat.le_of_ble_eq_true rfl) ?_
  intro p e s m below meth c X hw hr hlk ls hl
  have hl : lv_has ls 2 [(0, .int a1)] := hl
  unfold f_X4_clickChance
  obtain ⟨t, hZ, hT⟩ := (hw.2.2.2.1 rfl).2
  refine lv_iload_n X.1 X.2.1 dX4_clickChance_0 rfl (lv_at hl 0 rfl) ?_
  refine lv_iconst (v := 1) X.1 X.2.1 dX4_clickChance_1 (by decide) ?_
  refine lv_iadd X.1 X.2.1 dX4_clickChance_2 ?_
  refine tni (fun x1 ex1 => ?_)
  have q2 := inc_sp a1
  rw [← ex1] at q2
  refine lv_istore_n (lv' := [(1, .int x1), (0, .int a1)]) X.1 X.2.1 dX4_clickChance_3 rfl hl (by decide) rfl (fun ls hl => ?_)
  refine lv_iload_n X.1 X.2.1 dX4_clickChance_4 rfl (lv_at hl 0 rfl) ?_
  refine bz_lt (tgt := 24) X dX4_clickChance_5 (by decide) (fun c3 => ?_) (fun c3 => ?_)
  · skip
    have t4 : x1.toInt < 0 := i_lt c3
    refine lv_iconst (v := 0) X.1 X.2.1 dX4_clickChance_24 (by decide) ?_
    exact rI X hr hlk dX4_clickChance_25
  · skip
    have t5 : 0 ≤ x1.toInt := i_nlt c3
    refine lv_iload_n X.1 X.2.1 dX4_clickChance_8 rfl (lv_at hl 0 rfl) ?_
    refine va_getsN X.1 X.2.1 hZ va_S.rf X.2.2.2.1 (va_Nw.use rfl (hw.2.2.2.1 rfl).1.2.2.2) (fun _ h => h) dX4_clickChance_9 ?_
    refine va_tlen X.1 X.2.1 hT va_S.rf (v := 5) rfl dX4_clickChance_12 ?_
    refine bi_ge (tgt := 24) X dX4_clickChance_13 (by decide) (fun c6 => ?_) (fun c6 => ?_)
    · skip
      have t7 : 5 ≤ x1.toInt := i_le c6
      refine lv_iconst (v := 0) X.1 X.2.1 dX4_clickChance_24 (by decide) ?_
      exact rI X hr hlk dX4_clickChance_25
    · skip
      have t8 : x1.toInt < 5 := i_nle c6
      refine va_getsN X.1 X.2.1 hZ va_S.rf X.2.2.2.1 (va_Nw.use rfl (hw.2.2.2.1 rfl).1.2.2.2) (fun _ h => h) dX4_clickChance_16 ?_
      refine lv_iload_n X.1 X.2.1 dX4_clickChance_19 rfl (lv_at hl 0 rfl) ?_
      refine va_ti X.1 X.2.1 hT va_S.rf (vp_in_iff.mpr ⟨by omega, by omega⟩) rfl dX4_clickChance_20 ?_
      refine lv_goto (tgt := 25) X.1 X.2.1 dX4_clickChance_21 (by decide) ?_
      exact rI X hr hlk dX4_clickChance_25

def f_X4_draw (M : Mem) : Int32 × Mem := bnd ((1664525 * (M.1 7 3)) + 1013904223) (fun x1 => bnd (ui M 7 3 x1) (fun M2 => (((M2.1 7 3).toUInt32 >>> ((16 : Int32).toUInt32 &&& Int32.toUInt32 31)).toInt32, M2)))
set_option maxRecDepth 100000 in
set_option maxHeartbeats 4000000 in
theorem c_X4_draw (l : Launch) (G : En) (A : Nat → Prop) (M : Mem)  : WrI true l yX4_draw wsX4_draw ({ frames := 0, cells := 0, slots := 0, locals := 0 }) G A M [.ref (G.2.2 7)] (f_X4_draw M) := by
  refine WrI.of (cc := cX4_draw) (maxL := 1) (ret := (some .int)) (own := RX4) (by decide) rfl rfl (Nat.le_of_ble_eq_true rfl) ?_
  intro p e s m below meth c X hw hr hlk ls hl hS
  have hl : lv_has ls 1 [(0, .ref (G.2.2 7))] := hl
  unfold f_X4_draw
  refine lv_aload_n X.1 X.2.1 dX4_draw_0 rfl (lv_at hl 0 rfl) ?_
  refine lv_ldc (v := 1664525) X.1 X.2.1 X.2.2.2.1 (X.2.2.2.2 (.constant RX4 59 (1664525)) (by decide +kernel)) dX4_draw_1 ?_
  refine lv_aload_n X.1 X.2.1 dX4_draw_3 rfl (lv_at hl 0 rfl) ?_
  refine gF X hw (by decide) hk_Mx rfl (by decide +kernel) 3 (by decide) (ref := "RankBench$Mix") rfl (by decide +kernel) rfl dX4_draw_4 ?_
  refine lv_imul X.1 X.2.1 dX4_draw_7 ?_
  refine lv_ldc (v := 1013904223) X.1 X.2.1 X.2.2.2.1 (X.2.2.2.2 (.constant RX4 60 (1013904223)) (by decide +kernel)) dX4_draw_8 ?_
  refine lv_iadd X.1 X.2.1 dX4_draw_10 ?_
  refine tni (fun x1 ex1 => ?_)
  refine pF X hw hS (ui M 7 3 x1) (by decide) hk_Mx rfl (by decide +kernel) tyX4 tyX4_ok nmX4 3 (by decide) (ref := "RankBench$Mix") rfl (by decide +kernel) rfl rfl rfl (Nat.le_of_ble_eq_true rfl) (by rw [hk_Mx, ui_same]; rfl) (fun j hj => ui_ne hj) (fun j hj => rfl) (okK_ui hw.2.2.2.2 (Or.inr (Or.inl (by decide)))) dX4_draw_11 (fun H locs hw hS => ?_)
  refine tpb (fun M2 eM2 => ?_)
  rw [← eM2] at hw
  refine lv_aload_n X.1 X.2.1 dX4_draw_14 rfl (lv_at hl 0 rfl) ?_
  refine gF X hw (by decide) hk_Mx rfl (by decide +kernel) 3 (by decide) (ref := "RankBench$Mix") rfl (by decide +kernel) rfl dX4_draw_15 ?_
  refine lv_bipush (v := 16) X.1 X.2.1 dX4_draw_18 (by decide) ?_
  refine lv_iushr (v := ((M2.1 7 3).toUInt32 >>> ((16 : Int32).toUInt32 &&& Int32.toUInt32 31)).toInt32) X.1 X.2.1 dX4_draw_20 rfl ?_
  exact rQ X hr hlk hw hS dX4_draw_21

def f_X4_firstNotLaid_2 : Nat → Mem → Nat → Int32 → Int32
  | 0, M, _, _ => 0
  | n1 + 1, M, v1, v2 => bnd (f_X7_size M v1) (fun r1 => if r1 < v2 then (-1) else (bnd (f_X7_documentAt M v1 v2) (fun r5 => if (((M.1 7 6).toUInt32 >>> (r5.toUInt32 &&& Int32.toUInt32 31)).toInt32 &&& 1) = 0 then r5 else (f_X4_firstNotLaid_2 n1 M v1 (v2 + 1)))))
def f_X4_firstNotLaid (M : Mem) (i1 : Nat) : Int32 := f_X4_firstNotLaid_2 (((M.1 i1 1).toInt - 1 + 1 : Int).toNat + 1) M i1 1
set_option maxRecDepth 100000 in
set_option maxHeartbeats 4000000 in
theorem c_X4_firstNotLaid (l : Launch) (G : En) (A : Nat → Prop) (M : Mem) (i1 : Nat) (hi1 : 34 ≤ i1 ∧ i1 < 66) : RdI true l yX4_firstNotLaid wsX4_firstNotLaid ({ frames := 1, cells := 0, slots := 0, locals := 21 }) G A M [.ref (G.2.2 7), .ref (G.2.2 i1)] (f_X4_firstNotLaid M i1) := by
  refine RdI.of (cc := cX4_firstNotLaid) (maxL := 4) (ret := (some .int)) (own := RX4) (by decide) rfl rfl (Nat.le_of_ble_eq_true rfl) ?_
  intro p e s m below meth c X hw hr hlk ls hl
  have hl : lv_has ls 4 [(0, .ref (G.2.2 7)), (1, .ref (G.2.2 i1))] := hl
  unfold f_X4_firstNotLaid
  refine lv_iconst (v := 1) X.1 X.2.1 dX4_firstNotLaid_0 (by decide) ?_
  refine lv_istore_n (lv' := [(2, .int 1), (0, .ref (G.2.2 7)), (1, .ref (G.2.2 i1))]) X.1 X.2.1 dX4_firstNotLaid_1 rfl hl (by decide) rfl (fun ls hl => ?_)
  have L1 : ∀ (n1 : Nat) (v1 : Nat) (v2 : Int32) (hv1 : 34 ≤ v1 ∧ v1 < 66) (hm1 : ((M.1 v1 1).toInt - v2.toInt + 1 : Int).toNat < n1) (hi1_0 : 1 ≤ v2.toInt), ∀ ls : Array Slot, lv_has ls 4 [(0, .ref (G.2.2 7)), (1, .ref (G.2.2 v1)), (2, .int v2)] → W p l e ({ frames := 1, cells := 0, slots := 0, locals := 21 } : Room) s m ([.ref (G.2.2 7), .ref (G.2.2 i1)] : List Value).toArray below meth c s.heap [] 0 0 (TSi below ([.ref (G.2.2 7), .ref (G.2.2 i1)] : List Value).toArray s (f_X4_firstNotLaid_2 n1 M v1 v2)) (F0 m 2 ls []) := by
    intro n1
    induction n1 with
    | zero => intro v1 v2 hv1 hm1 hi1_0; exact absurd hm1 (by omega)
    | succ n1 ih1 =>
      intro v1 v2 hv1 hm1 hi1_0 ls hl
      rw [f_X4_firstNotLaid_2]
      refine lv_iload_n X.1 X.2.1 dX4_firstNotLaid_2 rfl (lv_at hl 2 rfl) ?_
      refine lv_aload_n X.1 X.2.1 dX4_firstNotLaid_3 rfl (lv_at hl 1 rfl) ?_
      refine cVI [] [.int v2] X hw (c_X7_size l G A M v1 hv1) (cwV 0 X.2.2.2.2 gX4_firstNotLaid_X7_size rfl rfl rfl (by decide +kernel) ⟨Nat.le_of_ble_eq_true rfl, Nat.le_of_ble_eq_true rfl⟩) (hw.recv (lt98 (by have h9 := hv1; omega)) (hk_Row hv1) rfl) rfl rfl hl.1 (Nat.le_of_ble_eq_true rfl) dX4_firstNotLaid_4 ?_
      refine tni (fun r1 er1 => ?_)
      have zr1 := (hw.2.2.2.2 v1 hv1.1 hv1.2).2
      have z2r1 : r1 = M.1 v1 1 := er1
      rw [← z2r1] at zr1
      have z3r1 := congrArg Int32.toInt z2r1
      refine bi_gt (tgt := 35) X dX4_firstNotLaid_7 (by decide) (fun c2 => ?_) (fun c2 => ?_)
      · skip
        have t3 : r1.toInt < v2.toInt := i_lt c2
        refine lv_iconst (v := (-1)) X.1 X.2.1 dX4_firstNotLaid_35 (by decide) ?_
        exact rI X hr hlk dX4_firstNotLaid_36
      · skip
        have t4 : v2.toInt ≤ r1.toInt := i_nlt c2
        refine lv_aload_n X.1 X.2.1 dX4_firstNotLaid_10 rfl (lv_at hl 1 rfl) ?_
        refine lv_iload_n X.1 X.2.1 dX4_firstNotLaid_11 rfl (lv_at hl 2 rfl) ?_
        refine cVI [.int v2] [] X hw (c_X7_documentAt l G A M v1 hv1 v2) (cwV 1 X.2.2.2.2 gX4_firstNotLaid_X7_documentAt rfl rfl rfl (by decide +kernel) ⟨Nat.le_of_ble_eq_true rfl, Nat.le_of_ble_eq_true rfl⟩) (hw.recv (lt98 (by have h9 := hv1; omega)) (hk_Row hv1) rfl) rfl rfl hl.1 (Nat.le_of_ble_eq_true rfl) dX4_firstNotLaid_12 ?_
        refine tni (fun r5 er5 => ?_)
        refine lv_istore_n (lv' := [(3, .int r5), (0, .ref (G.2.2 7)), (1, .ref (G.2.2 v1)), (2, .int v2)]) X.1 X.2.1 dX4_firstNotLaid_15 rfl hl (by decide) rfl (fun ls hl => ?_)
        refine lv_aload_n X.1 X.2.1 dX4_firstNotLaid_16 rfl (lv_at hl 1 rfl) ?_
        refine gF X hw (by decide) hk_Mx rfl (by decide +kernel) 6 (by decide) (ref := "RankBench$Mix") rfl (by decide +kernel) rfl dX4_firstNotLaid_17 ?_
        refine lv_iload_n X.1 X.2.1 dX4_firstNotLaid_20 rfl (lv_at hl 0 rfl) ?_
        refine lv_iushr (v := ((M.1 7 6).toUInt32 >>> (r5.toUInt32 &&& Int32.toUInt32 31)).toInt32) X.1 X.2.1 dX4_firstNotLaid_21 rfl ?_
        refine lv_iconst (v := 1) X.1 X.2.1 dX4_firstNotLaid_22 (by decide) ?_
        refine lv_iand X.1 X.2.1 dX4_firstNotLaid_23 ?_
        refine bz_ne (tgt := 29) X dX4_firstNotLaid_24 (by decide) (fun c6 => ?_) (fun c6 => ?_)
        · skip
          have t7 : ¬ (((M.1 7 6).toUInt32 >>> (r5.toUInt32 &&& Int32.toUInt32 31)).toInt32 &&& 1).toInt = 0 := i_ne c6
          refine lv_iinc (v := (v2 + 1)) (lv' := [(2, .int (v2 + 1)), (3, .int r5), (0, .ref (G.2.2 7)), (1, .ref (G.2.2 v1))]) X.1 X.2.1 dX4_firstNotLaid_29 hl (k := 3) rfl rfl (by decide) rfl (fun ls hl => ?_)
          refine lv_goto (tgt := 2) X.1 X.2.1 dX4_firstNotLaid_32 (by decide) ?_
          have q8 := inc_sp v2
          exact ih1 v1 (v2 + 1) hv1 (by omega) (by omega)  ls (lv_sub hl [2, 3, 0] rfl)
        · skip
          have t9 : (((M.1 7 6).toUInt32 >>> (r5.toUInt32 &&& Int32.toUInt32 31)).toInt32 &&& 1).toInt = 0 := i_eq c6
          refine lv_iload_n X.1 X.2.1 dX4_firstNotLaid_27 rfl (lv_at hl 0 rfl) ?_
          exact rI X hr hlk dX4_firstNotLaid_28
  exact L1 (((M.1 i1 1).toInt - 1 + 1 : Int).toNat + 1) i1 1 hi1 (Nat.lt_succ_self _) (by first | omega | decide)  ls (lv_sub hl [1, 2, 0] rfl)

def f_X4_canLay (M : Mem) (i1 : Nat) (i2 : Nat) : Int32 := if (16 : Int32) ≤ (M.1 7 2) then 0 else (bnd (f_X4_firstNotLaid M i1) (fun r4 => if r4 = (-1) then (bnd (f_X4_firstNotLaid M i2) (fun r8 => if r8 = (-1) then 0 else 1)) else 1))
set_option maxRecDepth 100000 in
set_option maxHeartbeats 4000000 in
theorem c_X4_canLay (l : Launch) (G : En) (A : Nat → Prop) (M : Mem) (i1 : Nat) (hi1 : 34 ≤ i1 ∧ i1 < 66) (i2 : Nat) (hi2 : 34 ≤ i2 ∧ i2 < 66) : RdI true l yX4_canLay wsX4_canLay ({ frames := 2, cells := 0, slots := 0, locals := 44 }) G A M [.ref (G.2.2 7), .ref (G.2.2 i1), .ref (G.2.2 i2)] (f_X4_canLay M i1 i2) := by
  refine RdI.of (cc := cX4_canLay) (maxL := 3) (ret := (some .boolean)) (own := RX4) (by decide) rfl rfl (Nat.le_of_ble_eq_true rfl) ?_
  intro p e s m below meth c X hw hr hlk ls hl
  have hl : lv_has ls 3 [(0, .ref (G.2.2 7)), (1, .ref (G.2.2 i1)), (2, .ref (G.2.2 i2))] := hl
  unfold f_X4_canLay
  refine lv_aload_n X.1 X.2.1 dX4_canLay_0 rfl (lv_at hl 0 rfl) ?_
  refine gF X hw (by decide) hk_Mx rfl (by decide +kernel) 2 (by decide) (ref := "RankBench$Mix") rfl (by decide +kernel) rfl dX4_canLay_1 ?_
  refine lv_bipush (v := 16) X.1 X.2.1 dX4_canLay_4 (by decide) ?_
  refine bi_ge (tgt := 31) X dX4_canLay_6 (by decide) (fun c1 => ?_) (fun c1 => ?_)
  · skip
    have t2 : 16 ≤ (M.1 7 2).toInt := i_le c1
    refine lv_iconst (v := 0) X.1 X.2.1 dX4_canLay_31 (by decide) ?_
    exact rZ X hr hlk rfl dX4_canLay_32
  · skip
    have t3 : (M.1 7 2).toInt < 16 := i_nle c1
    refine lv_aload_n X.1 X.2.1 dX4_canLay_9 rfl (lv_at hl 0 rfl) ?_
    refine lv_aload_n X.1 X.2.1 dX4_canLay_10 rfl (lv_at hl 1 rfl) ?_
    refine cVI [.ref (G.2.2 i1)] [] X hw (c_X4_firstNotLaid l G A M i1 hi1) (cwV 1 X.2.2.2.2 gX4_canLay_X4_firstNotLaid rfl rfl rfl (by decide +kernel) ⟨Nat.le_of_ble_eq_true rfl, Nat.le_of_ble_eq_true rfl⟩) (hw.recv (by decide) hk_Mx rfl) rfl rfl hl.1 (Nat.le_of_ble_eq_true rfl) dX4_canLay_11 ?_
    refine tni (fun r4 er4 => ?_)
    refine lv_iconst (v := (-1)) X.1 X.2.1 dX4_canLay_14 (by decide) ?_
    refine bi_ne (tgt := 27) X dX4_canLay_15 (by decide) (fun c5 => ?_) (fun c5 => ?_)
    · skip
      have t6 : ¬ r4.toInt = -1 := i_ne c5
      refine lv_iconst (v := 1) X.1 X.2.1 dX4_canLay_27 (by decide) ?_
      refine lv_goto (tgt := 32) X.1 X.2.1 dX4_canLay_28 (by decide) ?_
      exact rZ X hr hlk rfl dX4_canLay_32
    · skip
      have t7 : r4.toInt = -1 := i_eq c5
      refine lv_aload_n X.1 X.2.1 dX4_canLay_18 rfl (lv_at hl 0 rfl) ?_
      refine lv_aload_n X.1 X.2.1 dX4_canLay_19 rfl (lv_at hl 2 rfl) ?_
      refine cVI [.ref (G.2.2 i2)] [] X hw (c_X4_firstNotLaid l G A M i2 hi2) (cwV 1 X.2.2.2.2 gX4_canLay_X4_firstNotLaid rfl rfl rfl (by decide +kernel) ⟨Nat.le_of_ble_eq_true rfl, Nat.le_of_ble_eq_true rfl⟩) (hw.recv (by decide) hk_Mx rfl) rfl rfl hl.1 (Nat.le_of_ble_eq_true rfl) dX4_canLay_20 ?_
      refine tni (fun r8 er8 => ?_)
      refine lv_iconst (v := (-1)) X.1 X.2.1 dX4_canLay_23 (by decide) ?_
      refine bi_eq (tgt := 31) X dX4_canLay_24 (by decide) (fun c9 => ?_) (fun c9 => ?_)
      · skip
        have t10 : r8.toInt = -1 := i_eq c9
        refine lv_iconst (v := 0) X.1 X.2.1 dX4_canLay_31 (by decide) ?_
        exact rZ X hr hlk rfl dX4_canLay_32
      · skip
        have t11 : ¬ r8.toInt = -1 := i_ne c9
        refine lv_iconst (v := 1) X.1 X.2.1 dX4_canLay_27 (by decide) ?_
        refine lv_goto (tgt := 32) X.1 X.2.1 dX4_canLay_28 (by decide) ?_
        exact rZ X hr hlk rfl dX4_canLay_32

def f_X4_layNext (M : Mem) (i1 : Nat) (a2 : Int32) : Mem := bnd (f_X4_firstNotLaid M i1) (fun r1 => if r1 = (-1) then M else (if (M.1 7 2) < 0 then M else (if (M.1 7 2) < 16 then (bnd (ui M 8 (M.1 7 2).toNatClampNeg r1) (fun M10 => bnd (ui M10 9 (M10.1 7 2).toNatClampNeg (vp_nar .boolean a2)) (fun M11 => bnd ((M11.1 7 6) ||| (1 <<< (r1 &&& 31))) (fun x12 => bnd (ui M11 7 6 x12) (fun M13 => bnd ((M13.1 7 2) + 1) (fun x14 => bnd (ui M13 7 2 x14) (fun M15 => M15))))))) else M)))
set_option maxRecDepth 100000 in
set_option maxHeartbeats 4000000 in
theorem c_X4_layNext (l : Launch) (G : En) (A : Nat → Prop) (M : Mem) (i1 : Nat) (hi1 : 34 ≤ i1 ∧ i1 < 66) (a2 : Int32) : WrV true l yX4_layNext wsX4_layNext ({ frames := 2, cells := 0, slots := 0, locals := 44 }) G A M [.ref (G.2.2 7), .ref (G.2.2 i1), .int a2] (f_X4_layNext M i1 a2) := by
  refine WrV.of (cc := cX4_layNext) (maxL := 4) (ret := none) (own := RX4) (by decide) rfl rfl (Nat.le_of_ble_eq_true rfl) ?_
  intro p e s m below meth c X hw hr hlk ls hl hS
  have hl : lv_has ls 4 [(0, .ref (G.2.2 7)), (1, .ref (G.2.2 i1)), (2, .int a2)] := hl
  unfold f_X4_layNext
  refine lv_aload_n X.1 X.2.1 dX4_layNext_0 rfl (lv_at hl 0 rfl) ?_
  refine lv_aload_n X.1 X.2.1 dX4_layNext_1 rfl (lv_at hl 1 rfl) ?_
  refine cVI [.ref (G.2.2 i1)] [] X hw (c_X4_firstNotLaid l G A M i1 hi1) (cwV 1 X.2.2.2.2 gX4_layNext_X4_firstNotLaid rfl rfl rfl (by decide +kernel) ⟨Nat.le_of_ble_eq_true rfl, Nat.le_of_ble_eq_true rfl⟩) (hw.recv (by decide) hk_Mx rfl) rfl rfl hl.1 (Nat.le_of_ble_eq_true rfl) dX4_layNext_2 ?_
  refine tni (fun r1 er1 => ?_)
  refine lv_istore_n (lv' := [(3, .int r1), (0, .ref (G.2.2 7)), (1, .ref (G.2.2 i1)), (2, .int a2)]) X.1 X.2.1 dX4_layNext_5 rfl hl (by decide) rfl (fun ls hl => ?_)
  refine lv_iload_n X.1 X.2.1 dX4_layNext_6 rfl (lv_at hl 0 rfl) ?_
  refine lv_iconst (v := (-1)) X.1 X.2.1 dX4_layNext_7 (by decide) ?_
  refine bi_eq (tgt := 27) X dX4_layNext_8 (by decide) (fun c2 => ?_) (fun c2 => ?_)
  · skip
    have t3 : r1.toInt = -1 := i_eq c2
    exact rV X hr hlk hw hS dX4_layNext_27
  · skip
    have t4 : ¬ r1.toInt = -1 := i_ne c2
    refine lv_aload_n X.1 X.2.1 dX4_layNext_11 rfl (lv_at hl 1 rfl) ?_
    refine gF X hw (by decide) hk_Mx rfl (by decide +kernel) 2 (by decide) (ref := "RankBench$Mix") rfl (by decide +kernel) rfl dX4_layNext_12 ?_
    refine bz_lt (tgt := 27) X dX4_layNext_15 (by decide) (fun c5 => ?_) (fun c5 => ?_)
    · skip
      have t6 : (M.1 7 2).toInt < 0 := i_lt c5
      exact rV X hr hlk hw hS dX4_layNext_27
    · skip
      have t7 : 0 ≤ (M.1 7 2).toInt := i_nlt c5
      refine lv_aload_n X.1 X.2.1 dX4_layNext_18 rfl (lv_at hl 1 rfl) ?_
      refine gF X hw (by decide) hk_Mx rfl (by decide +kernel) 2 (by decide) (ref := "RankBench$Mix") rfl (by decide +kernel) rfl dX4_layNext_19 ?_
      refine lv_bipush (v := 16) X.1 X.2.1 dX4_layNext_22 (by decide) ?_
      refine bi_lt (tgt := 28) X dX4_layNext_24 (by decide) (fun c8 => ?_) (fun c8 => ?_)
      · skip
        have t9 : (M.1 7 2).toInt < 16 := i_lt c8
        refine lv_aload_n X.1 X.2.1 dX4_layNext_28 rfl (lv_at hl 1 rfl) ?_
        refine gF X hw (by decide) hk_Mx rfl (by decide +kernel) 0 (by decide) (ref := "RankBench$Mix") rfl (by decide +kernel) rfl dX4_layNext_29 ?_
        refine lv_aload_n X.1 X.2.1 dX4_layNext_32 rfl (lv_at hl 1 rfl) ?_
        refine gF X hw (by decide) hk_Mx rfl (by decide +kernel) 2 (by decide) (ref := "RankBench$Mix") rfl (by decide +kernel) rfl dX4_layNext_33 ?_
        refine lv_iload_n X.1 X.2.1 dX4_layNext_36 rfl (lv_at hl 0 rfl) ?_
        refine sI X hw hS (ui M 8 (M.1 7 2).toNatClampNeg r1) (by decide) hk_Md (vp_in_iff.mpr ⟨by omega, by omega⟩) (by rw [hk_Md, ui_same]) (fun j hj => ui_ne hj) (fun j hj => rfl) (okK_ui hw.2.2.2.2 (Or.inr (Or.inl (by decide)))) dX4_layNext_37 (fun H locs hw hS => ?_)
        refine tpb (fun M10 eM10 => ?_)
        rw [← eM10] at hw
        have h38 := congrArg Int32.toInt (show M10.1 7 2 = M.1 7 2 by rw [eM10, ui_ne (by decide)])
        refine lv_aload_n X.1 X.2.1 dX4_layNext_38 rfl (lv_at hl 1 rfl) ?_
        refine gF X hw (by decide) hk_Mx rfl (by decide +kernel) 1 (by decide) (ref := "RankBench$Mix") rfl (by decide +kernel) rfl dX4_layNext_39 ?_
        refine lv_aload_n X.1 X.2.1 dX4_layNext_42 rfl (lv_at hl 1 rfl) ?_
        refine gF X hw (by decide) hk_Mx rfl (by decide +kernel) 2 (by decide) (ref := "RankBench$Mix") rfl (by decide +kernel) rfl dX4_layNext_43 ?_
        refine lv_iload_n X.1 X.2.1 dX4_layNext_46 rfl (lv_at hl 3 rfl) ?_
        refine sZ X hw hS (ui M10 9 (M10.1 7 2).toNatClampNeg (vp_nar .boolean a2)) (by decide) hk_Mf (vp_in_iff.mpr ⟨by omega, by omega⟩) (by rw [hk_Mf, ui_same]) (fun j hj => ui_ne hj) (fun j hj => rfl) (okK_ui hw.2.2.2.2 (Or.inr (Or.inl (by decide)))) dX4_layNext_47 (fun H locs hw hS => ?_)
        refine tpb (fun M11 eM11 => ?_)
        rw [← eM11] at hw
        refine lv_aload_n X.1 X.2.1 dX4_layNext_48 rfl (lv_at hl 1 rfl) ?_
        refine lv_dup X.1 X.2.1 dX4_layNext_49 rfl ?_
        refine gF X hw (by decide) hk_Mx rfl (by decide +kernel) 6 (by decide) (ref := "RankBench$Mix") rfl (by decide +kernel) rfl dX4_layNext_50 ?_
        refine lv_iconst (v := 1) X.1 X.2.1 dX4_layNext_53 (by decide) ?_
        refine lv_iload_n X.1 X.2.1 dX4_layNext_54 rfl (lv_at hl 0 rfl) ?_
        refine lv_ishl X.1 X.2.1 dX4_layNext_55 ?_
        refine lv_ior X.1 X.2.1 dX4_layNext_56 ?_
        refine tni (fun x12 ex12 => ?_)
        refine pF X hw hS (ui M11 7 6 x12) (by decide) hk_Mx rfl (by decide +kernel) tyX4 tyX4_ok nmX4 6 (by decide) (ref := "RankBench$Mix") rfl (by decide +kernel) rfl rfl rfl (Nat.le_of_ble_eq_true rfl) (by rw [hk_Mx, ui_same]; rfl) (fun j hj => ui_ne hj) (fun j hj => rfl) (okK_ui hw.2.2.2.2 (Or.inr (Or.inl (by decide)))) dX4_layNext_57 (fun H locs hw hS => ?_)
        refine tpb (fun M13 eM13 => ?_)
        rw [← eM13] at hw
        refine lv_aload_n X.1 X.2.1 dX4_layNext_60 rfl (lv_at hl 1 rfl) ?_
        refine lv_dup X.1 X.2.1 dX4_layNext_61 rfl ?_
        refine gF X hw (by decide) hk_Mx rfl (by decide +kernel) 2 (by decide) (ref := "RankBench$Mix") rfl (by decide +kernel) rfl dX4_layNext_62 ?_
        refine lv_iconst (v := 1) X.1 X.2.1 dX4_layNext_65 (by decide) ?_
        refine lv_iadd X.1 X.2.1 dX4_layNext_66 ?_
        refine tni (fun x14 ex14 => ?_)
        refine pF X hw hS (ui M13 7 2 x14) (by decide) hk_Mx rfl (by decide +kernel) tyX4 tyX4_ok nmX4 2 (by decide) (ref := "RankBench$Mix") rfl (by decide +kernel) rfl rfl rfl (Nat.le_of_ble_eq_true rfl) (by rw [hk_Mx, ui_same]; rfl) (fun j hj => ui_ne hj) (fun j hj => rfl) (okK_ui hw.2.2.2.2 (Or.inr (Or.inl (by decide)))) dX4_layNext_67 (fun H locs hw hS => ?_)
        refine tpb (fun M15 eM15 => ?_)
        rw [← eM15] at hw
        exact rV X hr hlk hw hS dX4_layNext_70
      · skip
        have t16 : 16 ≤ (M.1 7 2).toInt := i_nlt c8
        exact rV X hr hlk hw hS dX4_layNext_27

def f_X4_lay_18 : Nat → Mem → Nat → Nat → Int32 → Mem
  | 0, M, _, _, _ => M
  | n1 + 1, M, v1, v2, v4 => if (16 : Int32) ≤ v4 then M else (bnd (f_X4_canLay M v1 v2) (fun r7 => if r7 = 0 then M else (bnd (f_X4_draw M) (fun p11 => if (p11.1 - p11.1 / 2 * 2) = 0 then (bnd (f_X4_layNext p11.2 v1 0) (fun M18 => bnd (f_X4_layNext M18 v2 1) (fun M19 => f_X4_lay_18 n1 M19 v1 v2 (v4 + 1)))) else (bnd (f_X4_layNext p11.2 v2 1) (fun M14 => bnd (f_X4_layNext M14 v1 0) (fun M15 => f_X4_lay_18 n1 M15 v1 v2 (v4 + 1))))))))
def f_X4_lay (M : Mem) (i1 : Nat) (i2 : Nat) (a3 : Int32) : Mem := bnd (ui M 7 3 a3) (fun M1 => bnd (ui M1 7 2 0) (fun M2 => bnd (ui M2 7 6 0) (fun M3 => f_X4_lay_18 17 M3 i1 i2 0)))
set_option maxRecDepth 100000 in
set_option maxHeartbeats 4000000 in
theorem c_X4_lay (l : Launch) (G : En) (A : Nat → Prop) (M : Mem) (i1 : Nat) (hi1 : 34 ≤ i1 ∧ i1 < 66) (i2 : Nat) (hi2 : 34 ≤ i2 ∧ i2 < 66) (a3 : Int32) : WrV true l yX4_lay wsX4_lay ({ frames := 3, cells := 0, slots := 0, locals := 67 }) G A M [.ref (G.2.2 7), .ref (G.2.2 i1), .ref (G.2.2 i2), .int a3] (f_X4_lay M i1 i2 a3) := by
  refine WrV.of (cc := cX4_lay) (maxL := 5) (ret := none) (own := RX4) (by decide) rfl rfl (Nat.le_of_ble_eq_true rfl) ?_
  intro p e s m below meth c X hw hr hlk ls hl hS
  have hl : lv_has ls 5 [(0, .ref (G.2.2 7)), (1, .ref (G.2.2 i1)), (2, .ref (G.2.2 i2)), (3, .int a3)] := hl
  unfold f_X4_lay
  refine lv_aload_n X.1 X.2.1 dX4_lay_0 rfl (lv_at hl 0 rfl) ?_
  refine lv_iload_n X.1 X.2.1 dX4_lay_1 rfl (lv_at hl 3 rfl) ?_
  refine pF X hw hS (ui M 7 3 a3) (by decide) hk_Mx rfl (by decide +kernel) tyX4 tyX4_ok nmX4 3 (by decide) (ref := "RankBench$Mix") rfl (by decide +kernel) rfl rfl rfl (Nat.le_of_ble_eq_true rfl) (by rw [hk_Mx, ui_same]; rfl) (fun j hj => ui_ne hj) (fun j hj => rfl) (okK_ui hw.2.2.2.2 (Or.inr (Or.inl (by decide)))) dX4_lay_2 (fun H locs hw hS => ?_)
  refine tpb (fun M1 eM1 => ?_)
  rw [← eM1] at hw
  refine lv_aload_n X.1 X.2.1 dX4_lay_5 rfl (lv_at hl 0 rfl) ?_
  refine lv_iconst (v := 0) X.1 X.2.1 dX4_lay_6 (by decide) ?_
  refine pF X hw hS (ui M1 7 2 0) (by decide) hk_Mx rfl (by decide +kernel) tyX4 tyX4_ok nmX4 2 (by decide) (ref := "RankBench$Mix") rfl (by decide +kernel) rfl rfl rfl (Nat.le_of_ble_eq_true rfl) (by rw [hk_Mx, ui_same]; rfl) (fun j hj => ui_ne hj) (fun j hj => rfl) (okK_ui hw.2.2.2.2 (Or.inr (Or.inl (by decide)))) dX4_lay_7 (fun H locs hw hS => ?_)
  refine tpb (fun M2 eM2 => ?_)
  rw [← eM2] at hw
  refine lv_aload_n X.1 X.2.1 dX4_lay_10 rfl (lv_at hl 0 rfl) ?_
  refine lv_iconst (v := 0) X.1 X.2.1 dX4_lay_11 (by decide) ?_
  refine pF X hw hS (ui M2 7 6 0) (by decide) hk_Mx rfl (by decide +kernel) tyX4 tyX4_ok nmX4 6 (by decide) (ref := "RankBench$Mix") rfl (by decide +kernel) rfl rfl rfl (Nat.le_of_ble_eq_true rfl) (by rw [hk_Mx, ui_same]; rfl) (fun j hj => ui_ne hj) (fun j hj => rfl) (okK_ui hw.2.2.2.2 (Or.inr (Or.inl (by decide)))) dX4_lay_12 (fun H locs hw hS => ?_)
  refine tpb (fun M3 eM3 => ?_)
  rw [← eM3] at hw
  refine lv_iconst (v := 0) X.1 X.2.1 dX4_lay_15 (by decide) ?_
  refine lv_istore (lv' := [(4, .int 0), (0, .ref (G.2.2 7)), (1, .ref (G.2.2 i1)), (2, .ref (G.2.2 i2)), (3, .int a3)]) X.1 X.2.1 dX4_lay_16 hl (by decide) rfl (fun ls hl => ?_)
  have L1 : ∀ (n1 : Nat) (M : Mem) (v1 : Nat) (v2 : Nat) (v4 : Int32) (hv1 : 34 ≤ v1 ∧ v1 < 66) (hv2 : 34 ≤ v2 ∧ v2 < 66) (hm1 : (16 - v4.toInt : Int).toNat < n1) (hi1_0 : 0 ≤ v4.toInt), ∀ (H : Heap) (locs : List Loc), WD true G A M s H → va_S A s.heap H locs → ∀ ls : Array Slot, lv_has ls 5 [(0, .ref (G.2.2 7)), (1, .ref (G.2.2 v1)), (2, .ref (G.2.2 v2)), (4, .int v4)] → W p l e ({ frames := 3, cells := 0, slots := 0, locals := 67 } : Room) s m ([.ref (G.2.2 7), .ref (G.2.2 i1), .ref (G.2.2 i2), .int a3] : List Value).toArray below meth c H locs 0 0 (TQv true G A below ([.ref (G.2.2 7), .ref (G.2.2 i1), .ref (G.2.2 i2), .int a3] : List Value).toArray s (f_X4_lay_18 n1 M v1 v2 v4)) (F0 m 18 ls []) := by
    intro n1
    induction n1 with
    | zero => intro M v1 v2 v4 hv1 hv2 hm1 hi1_0; exact absurd hm1 (by omega)
    | succ n1 ih1 =>
      intro M v1 v2 v4 hv1 hv2 hm1 hi1_0 H locs hw hS ls hl
      rw [f_X4_lay_18]
      refine lv_iload X.1 X.2.1 dX4_lay_18 (lv_at hl 3 rfl) ?_
      refine lv_bipush (v := 16) X.1 X.2.1 dX4_lay_20 (by decide) ?_
      refine bi_ge (tgt := 76) X dX4_lay_22 (by decide) (fun c4 => ?_) (fun c4 => ?_)
      · skip
        have t5 : 16 ≤ v4.toInt := i_le c4
        exact rV X hr hlk hw hS dX4_lay_76
      · skip
        have t6 : v4.toInt < 16 := i_nle c4
        refine lv_aload_n X.1 X.2.1 dX4_lay_25 rfl (lv_at hl 0 rfl) ?_
        refine lv_aload_n X.1 X.2.1 dX4_lay_26 rfl (lv_at hl 1 rfl) ?_
        refine lv_aload_n X.1 X.2.1 dX4_lay_27 rfl (lv_at hl 2 rfl) ?_
        refine cVI [.ref (G.2.2 v1), .ref (G.2.2 v2)] [] X hw (c_X4_canLay l G A M v1 hv1 v2 hv2) (cwV 2 X.2.2.2.2 gX4_lay_X4_canLay rfl rfl rfl (by decide +kernel) ⟨Nat.le_of_ble_eq_true rfl, Nat.le_of_ble_eq_true rfl⟩) (hw.recv (by decide) hk_Mx rfl) rfl rfl hl.1 (Nat.le_of_ble_eq_true rfl) dX4_lay_28 ?_
        refine tni (fun r7 er7 => ?_)
        refine bz_eq (tgt := 76) X dX4_lay_31 (by decide) (fun c8 => ?_) (fun c8 => ?_)
        · skip
          have t9 : r7.toInt = 0 := i_eq c8
          exact rV X hr hlk hw hS dX4_lay_76
        · skip
          have t10 : ¬ r7.toInt = 0 := i_ne c8
          refine lv_aload_n X.1 X.2.1 dX4_lay_34 rfl (lv_at hl 0 rfl) ?_
          refine cVJ [] [] X hw hS (c_X4_draw l G A M ) (cwV 0 X.2.2.2.2 gX4_lay_X4_draw rfl rfl rfl (by decide +kernel) ⟨Nat.le_of_ble_eq_true rfl, Nat.le_of_ble_eq_true rfl⟩) (hw.recv (by decide) hk_Mx rfl) rfl rfl hl.1 (Nat.le_of_ble_eq_true rfl) dX4_lay_35 (fun H locs hw hS => ?_)
          refine tpb (fun p11 ep11 => ?_)
          rw [← ep11] at hw
          rw [← ep11]
          refine lv_iconst (v := 2) X.1 X.2.1 dX4_lay_38 (by decide) ?_
          refine lv_irem X.1 X.2.1 dX4_lay_39 (by first | decide | assumption | omega) ?_
          refine bz_ne (tgt := 58) X dX4_lay_40 (by decide) (fun c12 => ?_) (fun c12 => ?_)
          · skip
            have t13 : ¬ (p11.1 - p11.1 / 2 * 2).toInt = 0 := i_ne c12
            refine lv_aload_n X.1 X.2.1 dX4_lay_58 rfl (lv_at hl 0 rfl) ?_
            refine lv_aload_n X.1 X.2.1 dX4_lay_59 rfl (lv_at hl 2 rfl) ?_
            refine lv_iconst (v := 1) X.1 X.2.1 dX4_lay_60 (by decide) ?_
            refine cVW [.ref (G.2.2 v2), .int 1] [] X hw hS (c_X4_layNext l G A p11.2 v2 hv2 1) (cwV 2 X.2.2.2.2 gX4_lay_X4_layNext rfl rfl rfl (by decide +kernel) ⟨Nat.le_of_ble_eq_true rfl, Nat.le_of_ble_eq_true rfl⟩) (hw.recv (by decide) hk_Mx rfl) rfl rfl hl.1 (Nat.le_of_ble_eq_true rfl) dX4_lay_61 (fun H locs hw hS => ?_)
            refine tpb (fun M14 eM14 => ?_)
            rw [← eM14] at hw
            refine lv_aload_n X.1 X.2.1 dX4_lay_64 rfl (lv_at hl 0 rfl) ?_
            refine lv_aload_n X.1 X.2.1 dX4_lay_65 rfl (lv_at hl 1 rfl) ?_
            refine lv_iconst (v := 0) X.1 X.2.1 dX4_lay_66 (by decide) ?_
            refine cVW [.ref (G.2.2 v1), .int 0] [] X hw hS (c_X4_layNext l G A M14 v1 hv1 0) (cwV 2 X.2.2.2.2 gX4_lay_X4_layNext rfl rfl rfl (by decide +kernel) ⟨Nat.le_of_ble_eq_true rfl, Nat.le_of_ble_eq_true rfl⟩) (hw.recv (by decide) hk_Mx rfl) rfl rfl hl.1 (Nat.le_of_ble_eq_true rfl) dX4_lay_67 (fun H locs hw hS => ?_)
            refine tpb (fun M15 eM15 => ?_)
            rw [← eM15] at hw
            refine lv_iinc (v := (v4 + 1)) (lv' := [(4, .int (v4 + 1)), (0, .ref (G.2.2 7)), (1, .ref (G.2.2 v1)), (2, .ref (G.2.2 v2))]) X.1 X.2.1 dX4_lay_70 hl (k := 3) rfl rfl (by decide) rfl (fun ls hl => ?_)
            refine lv_goto (tgt := 18) X.1 X.2.1 dX4_lay_73 (by decide) ?_
            have q16 := inc_sp v4
            exact ih1 M15 v1 v2 (v4 + 1) hv1 hv2 (by omega) (by omega) _ _ hw hS ls (lv_sub hl [1, 2, 3, 0] rfl)
          · skip
            have t17 : (p11.1 - p11.1 / 2 * 2).toInt = 0 := i_eq c12
            refine lv_aload_n X.1 X.2.1 dX4_lay_43 rfl (lv_at hl 0 rfl) ?_
            refine lv_aload_n X.1 X.2.1 dX4_lay_44 rfl (lv_at hl 1 rfl) ?_
            refine lv_iconst (v := 0) X.1 X.2.1 dX4_lay_45 (by decide) ?_
            refine cVW [.ref (G.2.2 v1), .int 0] [] X hw hS (c_X4_layNext l G A p11.2 v1 hv1 0) (cwV 2 X.2.2.2.2 gX4_lay_X4_layNext rfl rfl rfl (by decide +kernel) ⟨Nat.le_of_ble_eq_true rfl, Nat.le_of_ble_eq_true rfl⟩) (hw.recv (by decide) hk_Mx rfl) rfl rfl hl.1 (Nat.le_of_ble_eq_true rfl) dX4_lay_46 (fun H locs hw hS => ?_)
            refine tpb (fun M18 eM18 => ?_)
            rw [← eM18] at hw
            refine lv_aload_n X.1 X.2.1 dX4_lay_49 rfl (lv_at hl 0 rfl) ?_
            refine lv_aload_n X.1 X.2.1 dX4_lay_50 rfl (lv_at hl 2 rfl) ?_
            refine lv_iconst (v := 1) X.1 X.2.1 dX4_lay_51 (by decide) ?_
            refine cVW [.ref (G.2.2 v2), .int 1] [] X hw hS (c_X4_layNext l G A M18 v2 hv2 1) (cwV 2 X.2.2.2.2 gX4_lay_X4_layNext rfl rfl rfl (by decide +kernel) ⟨Nat.le_of_ble_eq_true rfl, Nat.le_of_ble_eq_true rfl⟩) (hw.recv (by decide) hk_Mx rfl) rfl rfl hl.1 (Nat.le_of_ble_eq_true rfl) dX4_lay_52 (fun H locs hw hS => ?_)
            refine tpb (fun M19 eM19 => ?_)
            rw [← eM19] at hw
            refine lv_goto (tgt := 70) X.1 X.2.1 dX4_lay_55 (by decide) ?_
            refine lv_iinc (v := (v4 + 1)) (lv' := [(4, .int (v4 + 1)), (0, .ref (G.2.2 7)), (1, .ref (G.2.2 v1)), (2, .ref (G.2.2 v2))]) X.1 X.2.1 dX4_lay_70 hl (k := 3) rfl rfl (by decide) rfl (fun ls hl => ?_)
            refine lv_goto (tgt := 18) X.1 X.2.1 dX4_lay_73 (by decide) ?_
            have q20 := inc_sp v4
            exact ih1 M19 v1 v2 (v4 + 1) hv1 hv2 (by omega) (by omega) _ _ hw hS ls (lv_sub hl [1, 2, 3, 0] rfl)
  exact L1 17 M3 i1 i2 0 hi1 hi2 (by decide) (by first | omega | decide) _ _ hw hS ls (lv_sub hl [1, 2, 3, 0] rfl)

def f_X4_click_14 : Nat → Mem → Nat → Int32 → Int32 → Mem
  | 0, M, _, _, _ => M
  | n1 + 1, M, v1, v2, v3 => if (M.1 7 2) ≤ v3 then M else (if (16 : Int32) ≤ v3 then M else (if v2 = 0 then (bnd (f_X4_draw M) (fun p12 => bnd (f_X6_gradeOf p12.2 v1 (p12.2.1 8 v3.toNatClampNeg)) (fun r13 => bnd (f_X4_clickChance r13) (fun r14 => if r14 ≤ (p12.1 - p12.1 / 100 * 100) then (f_X4_click_14 n1 p12.2 v1 v2 (v3 + 1)) else (if (p12.2.1 9 v3.toNatClampNeg) = 0 then (bnd ((p12.2.1 7 4) + 1) (fun x21 => bnd (ui p12.2 7 4 x21) (fun M22 => bnd (f_X4_draw M22) (fun p23 => if (50 : Int32) ≤ (p23.1 - p23.1 / 100 * 100) then (f_X4_click_14 n1 p23.2 v1 0 (v3 + 1)) else (f_X4_click_14 n1 p23.2 v1 1 (v3 + 1)))))) else (bnd ((p12.2.1 7 5) + 1) (fun x30 => bnd (ui p12.2 7 5 x30) (fun M31 => bnd (f_X4_draw M31) (fun p32 => if (50 : Int32) ≤ (p32.1 - p32.1 / 100 * 100) then (f_X4_click_14 n1 p32.2 v1 0 (v3 + 1)) else (f_X4_click_14 n1 p32.2 v1 1 (v3 + 1))))))))))) else M))
def f_X4_click (M : Mem) (i1 : Nat) : Mem := bnd (ui M 7 4 0) (fun M1 => bnd (ui M1 7 5 0) (fun M2 => f_X4_click_14 17 M2 i1 0 0))
set_option maxRecDepth 100000 in
set_option maxHeartbeats 4000000 in
theorem c_X4_click (l : Launch) (G : En) (A : Nat → Prop) (M : Mem) (i1 : Nat) (hi1 : 10 ≤ i1 ∧ i1 < 18) : WrV true l yX4_click wsX4_click ({ frames := 1, cells := 0, slots := 0, locals := 21 }) G A M [.ref (G.2.2 7), .ref (G.2.2 i1)] (f_X4_click M i1) := by
  refine WrV.of (cc := cX4_click) (maxL := 4) (ret := none) (own := RX4) (by decide) rfl rfl (Nat.le_of_ble_eq_true rfl) ?_
  intro p e s m below meth c X hw hr hlk ls hl hS
  have hl : lv_has ls 4 [(0, .ref (G.2.2 7)), (1, .ref (G.2.2 i1))] := hl
  unfold f_X4_click
  refine lv_aload_n X.1 X.2.1 dX4_click_0 rfl (lv_at hl 0 rfl) ?_
  refine lv_iconst (v := 0) X.1 X.2.1 dX4_click_1 (by decide) ?_
  refine pF X hw hS (ui M 7 4 0) (by decide) hk_Mx rfl (by decide +kernel) tyX4 tyX4_ok nmX4 4 (by decide) (ref := "RankBench$Mix") rfl (by decide +kernel) rfl rfl rfl (Nat.le_of_ble_eq_true rfl) (by rw [hk_Mx, ui_same]; rfl) (fun j hj => ui_ne hj) (fun j hj => rfl) (okK_ui hw.2.2.2.2 (Or.inr (Or.inl (by decide)))) dX4_click_2 (fun H locs hw hS => ?_)
  refine tpb (fun M1 eM1 => ?_)
  rw [← eM1] at hw
  refine lv_aload_n X.1 X.2.1 dX4_click_5 rfl (lv_at hl 0 rfl) ?_
  refine lv_iconst (v := 0) X.1 X.2.1 dX4_click_6 (by decide) ?_
  refine pF X hw hS (ui M1 7 5 0) (by decide) hk_Mx rfl (by decide +kernel) tyX4 tyX4_ok nmX4 5 (by decide) (ref := "RankBench$Mix") rfl (by decide +kernel) rfl rfl rfl (Nat.le_of_ble_eq_true rfl) (by rw [hk_Mx, ui_same]; rfl) (fun j hj => ui_ne hj) (fun j hj => rfl) (okK_ui hw.2.2.2.2 (Or.inr (Or.inl (by decide)))) dX4_click_7 (fun H locs hw hS => ?_)
  refine tpb (fun M2 eM2 => ?_)
  rw [← eM2] at hw
  refine lv_iconst (v := 0) X.1 X.2.1 dX4_click_10 (by decide) ?_
  refine lv_istore_n (lv' := [(2, .int 0), (0, .ref (G.2.2 7)), (1, .ref (G.2.2 i1))]) X.1 X.2.1 dX4_click_11 rfl hl (by decide) rfl (fun ls hl => ?_)
  refine lv_iconst (v := 0) X.1 X.2.1 dX4_click_12 (by decide) ?_
  refine lv_istore_n (lv' := [(3, .int 0), (2, .int 0), (0, .ref (G.2.2 7)), (1, .ref (G.2.2 i1))]) X.1 X.2.1 dX4_click_13 rfl hl (by decide) rfl (fun ls hl => ?_)
  have L1 : ∀ (n1 : Nat) (M : Mem) (v1 : Nat) (v2 : Int32) (v3 : Int32) (hv1 : 10 ≤ v1 ∧ v1 < 18) (hm1 : (16 - v3.toInt : Int).toNat < n1) (hi1_0 : 0 ≤ v3.toInt), ∀ (H : Heap) (locs : List Loc), WD true G A M s H → va_S A s.heap H locs → ∀ ls : Array Slot, lv_has ls 4 [(0, .ref (G.2.2 7)), (1, .ref (G.2.2 v1)), (2, .int v2), (3, .int v3)] → W p l e ({ frames := 1, cells := 0, slots := 0, locals := 21 } : Room) s m ([.ref (G.2.2 7), .ref (G.2.2 i1)] : List Value).toArray below meth c H locs 0 0 (TQv true G A below ([.ref (G.2.2 7), .ref (G.2.2 i1)] : List Value).toArray s (f_X4_click_14 n1 M v1 v2 v3)) (F0 m 14 ls []) := by
    intro n1
    induction n1 with
    | zero => intro M v1 v2 v3 hv1 hm1 hi1_0; exact absurd hm1 (by omega)
    | succ n1 ih1 =>
      intro M v1 v2 v3 hv1 hm1 hi1_0 H locs hw hS ls hl
      rw [f_X4_click_14]
      refine lv_iload_n X.1 X.2.1 dX4_click_14 rfl (lv_at hl 3 rfl) ?_
      refine lv_aload_n X.1 X.2.1 dX4_click_15 rfl (lv_at hl 0 rfl) ?_
      refine gF X hw (by decide) hk_Mx rfl (by decide +kernel) 2 (by decide) (ref := "RankBench$Mix") rfl (by decide +kernel) rfl dX4_click_16 ?_
      refine bi_ge (tgt := 111) X dX4_click_19 (by decide) (fun c3 => ?_) (fun c3 => ?_)
      · skip
        have t4 : (M.1 7 2).toInt ≤ v3.toInt := i_le c3
        exact rV X hr hlk hw hS dX4_click_111
      · skip
        have t5 : v3.toInt < (M.1 7 2).toInt := i_nle c3
        refine lv_iload_n X.1 X.2.1 dX4_click_22 rfl (lv_at hl 3 rfl) ?_
        refine lv_bipush (v := 16) X.1 X.2.1 dX4_click_23 (by decide) ?_
        refine bi_ge (tgt := 111) X dX4_click_25 (by decide) (fun c6 => ?_) (fun c6 => ?_)
        · skip
          have t7 : 16 ≤ v3.toInt := i_le c6
          exact rV X hr hlk hw hS dX4_click_111
        · skip
          have t8 : v3.toInt < 16 := i_nle c6
          refine lv_iload_n X.1 X.2.1 dX4_click_28 rfl (lv_at hl 2 rfl) ?_
          refine bz_ne (tgt := 111) X dX4_click_29 (by decide) (fun c9 => ?_) (fun c9 => ?_)
          · skip
            have t10 : ¬ v2.toInt = 0 := i_ne c9
            exact rV X hr hlk hw hS dX4_click_111
          · skip
            have t11 : v2.toInt = 0 := i_eq c9
            refine lv_aload_n X.1 X.2.1 dX4_click_32 rfl (lv_at hl 0 rfl) ?_
            refine cVJ [] [] X hw hS (c_X4_draw l G A M ) (cwV 0 X.2.2.2.2 gX4_click_X4_draw rfl rfl rfl (by decide +kernel) ⟨Nat.le_of_ble_eq_true rfl, Nat.le_of_ble_eq_true rfl⟩) (hw.recv (by decide) hk_Mx rfl) rfl rfl hl.1 (Nat.le_of_ble_eq_true rfl) dX4_click_33 (fun H locs hw hS => ?_)
            refine tpb (fun p12 ep12 => ?_)
            rw [← ep12] at hw
            rw [← ep12]
            refine lv_bipush (v := 100) X.1 X.2.1 dX4_click_36 (by decide) ?_
            refine lv_irem X.1 X.2.1 dX4_click_38 (by first | decide | assumption | omega) ?_
            refine lv_aload_n X.1 X.2.1 dX4_click_39 rfl (lv_at hl 1 rfl) ?_
            refine lv_aload_n X.1 X.2.1 dX4_click_40 rfl (lv_at hl 0 rfl) ?_
            refine gF X hw (by decide) hk_Mx rfl (by decide +kernel) 0 (by decide) (ref := "RankBench$Mix") rfl (by decide +kernel) rfl dX4_click_41 ?_
            refine lv_iload_n X.1 X.2.1 dX4_click_44 rfl (lv_at hl 3 rfl) ?_
            refine aI X hw (by decide) hk_Md (vp_in_iff.mpr ⟨by omega, by omega⟩) dX4_click_45 ?_
            refine cVI [.int (p12.2.1 8 v3.toNatClampNeg)] [.int (p12.1 - p12.1 / 100 * 100)] X hw (c_X6_gradeOf l G A p12.2 v1 hv1 (p12.2.1 8 v3.toNatClampNeg)) (cwV 1 X.2.2.2.2 gX4_click_X6_gradeOf rfl rfl rfl (by decide +kernel) ⟨Nat.le_of_ble_eq_true rfl, Nat.le_of_ble_eq_true rfl⟩) (hw.recv (lt98 (by have h9 := hv1; omega)) (hk_Q hv1) rfl) rfl rfl hl.1 (Nat.le_of_ble_eq_true rfl) dX4_click_46 ?_
            refine tni (fun r13 er13 => ?_)
            refine cSI [.int r13] [.int (p12.1 - p12.1 / 100 * 100)] X hw (c_X4_clickChance l G A p12.2 r13) (va_cwS 1 X.2.2.2.2 gX4_click_X4_clickChance rfl rfl rfl (by decide +kernel) ⟨Nat.le_of_ble_eq_true rfl, Nat.le_of_ble_eq_true rfl⟩)  rfl rfl hl.1 (Nat.le_of_ble_eq_true rfl) dX4_click_49 ?_
            refine tni (fun r14 er14 => ?_)
            refine bi_ge (tgt := 105) X dX4_click_52 (by decide) (fun c15 => ?_) (fun c15 => ?_)
            · skip
              have t16 : r14.toInt ≤ (p12.1 - p12.1 / 100 * 100).toInt := i_le c15
              refine lv_iinc (v := (v3 + 1)) (lv' := [(3, .int (v3 + 1)), (0, .ref (G.2.2 7)), (1, .ref (G.2.2 v1)), (2, .int v2)]) X.1 X.2.1 dX4_click_105 hl (k := 3) rfl rfl (by decide) rfl (fun ls hl => ?_)
              refine lv_goto (tgt := 14) X.1 X.2.1 dX4_click_108 (by decide) ?_
              have q17 := inc_sp v3
              exact ih1 p12.2 v1 v2 (v3 + 1) hv1 (by omega) (by omega) _ _ hw hS ls (lv_sub hl [1, 2, 3, 0] rfl)
            · skip
              have t18 : (p12.1 - p12.1 / 100 * 100).toInt < r14.toInt := i_nle c15
              refine lv_aload_n X.1 X.2.1 dX4_click_55 rfl (lv_at hl 0 rfl) ?_
              refine gF X hw (by decide) hk_Mx rfl (by decide +kernel) 1 (by decide) (ref := "RankBench$Mix") rfl (by decide +kernel) rfl dX4_click_56 ?_
              refine lv_iload_n X.1 X.2.1 dX4_click_59 rfl (lv_at hl 3 rfl) ?_
              refine aZ X hw (by decide) hk_Mf (vp_in_iff.mpr ⟨by omega, by omega⟩) dX4_click_60 ?_
              refine bz_eq (tgt := 77) X dX4_click_61 (by decide) (fun c19 => ?_) (fun c19 => ?_)
              · skip
                have t20 : (p12.2.1 9 v3.toNatClampNeg).toInt = 0 := i_eq c19
                refine lv_aload_n X.1 X.2.1 dX4_click_77 rfl (lv_at hl 0 rfl) ?_
                refine lv_dup X.1 X.2.1 dX4_click_78 rfl ?_
                refine gF X hw (by decide) hk_Mx rfl (by decide +kernel) 4 (by decide) (ref := "RankBench$Mix") rfl (by decide +kernel) rfl dX4_click_79 ?_
                refine lv_iconst (v := 1) X.1 X.2.1 dX4_click_82 (by decide) ?_
                refine lv_iadd X.1 X.2.1 dX4_click_83 ?_
                refine tni (fun x21 ex21 => ?_)
                refine pF X hw hS (ui p12.2 7 4 x21) (by decide) hk_Mx rfl (by decide +kernel) tyX4 tyX4_ok nmX4 4 (by decide) (ref := "RankBench$Mix") rfl (by decide +kernel) rfl rfl rfl (Nat.le_of_ble_eq_true rfl) (by rw [hk_Mx, ui_same]; rfl) (fun j hj => ui_ne hj) (fun j hj => rfl) (okK_ui hw.2.2.2.2 (Or.inr (Or.inl (by decide)))) dX4_click_84 (fun H locs hw hS => ?_)
                refine tpb (fun M22 eM22 => ?_)
                rw [← eM22] at hw
                refine lv_aload_n X.1 X.2.1 dX4_click_87 rfl (lv_at hl 0 rfl) ?_
                refine cVJ [] [] X hw hS (c_X4_draw l G A M22 ) (cwV 0 X.2.2.2.2 gX4_click_X4_draw rfl rfl rfl (by decide +kernel) ⟨Nat.le_of_ble_eq_true rfl, Nat.le_of_ble_eq_true rfl⟩) (hw.recv (by decide) hk_Mx rfl) rfl rfl hl.1 (Nat.le_of_ble_eq_true rfl) dX4_click_88 (fun H locs hw hS => ?_)
                refine tpb (fun p23 ep23 => ?_)
                rw [← ep23] at hw
                rw [← ep23]
                refine lv_bipush (v := 100) X.1 X.2.1 dX4_click_91 (by decide) ?_
                refine lv_irem X.1 X.2.1 dX4_click_93 (by first | decide | assumption | omega) ?_
                refine lv_bipush (v := 50) X.1 X.2.1 dX4_click_94 (by decide) ?_
                refine bi_ge (tgt := 103) X dX4_click_96 (by decide) (fun c24 => ?_) (fun c24 => ?_)
                · skip
                  have t25 : 50 ≤ (p23.1 - p23.1 / 100 * 100).toInt := i_le c24
                  refine lv_iconst (v := 0) X.1 X.2.1 dX4_click_103 (by decide) ?_
                  refine lv_istore_n (lv' := [(2, .int 0), (0, .ref (G.2.2 7)), (1, .ref (G.2.2 v1)), (3, .int v3)]) X.1 X.2.1 dX4_click_104 rfl hl (by decide) rfl (fun ls hl => ?_)
                  refine lv_iinc (v := (v3 + 1)) (lv' := [(3, .int (v3 + 1)), (2, .int 0), (0, .ref (G.2.2 7)), (1, .ref (G.2.2 v1))]) X.1 X.2.1 dX4_click_105 hl (k := 3) rfl rfl (by decide) rfl (fun ls hl => ?_)
                  refine lv_goto (tgt := 14) X.1 X.2.1 dX4_click_108 (by decide) ?_
                  have q26 := inc_sp v3
                  exact ih1 p23.2 v1 0 (v3 + 1) hv1 (by omega) (by omega) _ _ hw hS ls (lv_sub hl [2, 3, 1, 0] rfl)
                · skip
                  have t27 : (p23.1 - p23.1 / 100 * 100).toInt < 50 := i_nle c24
                  refine lv_iconst (v := 1) X.1 X.2.1 dX4_click_99 (by decide) ?_
                  refine lv_goto (tgt := 104) X.1 X.2.1 dX4_click_100 (by decide) ?_
                  refine lv_istore_n (lv' := [(2, .int 1), (0, .ref (G.2.2 7)), (1, .ref (G.2.2 v1)), (3, .int v3)]) X.1 X.2.1 dX4_click_104 rfl hl (by decide) rfl (fun ls hl => ?_)
                  refine lv_iinc (v := (v3 + 1)) (lv' := [(3, .int (v3 + 1)), (2, .int 1), (0, .ref (G.2.2 7)), (1, .ref (G.2.2 v1))]) X.1 X.2.1 dX4_click_105 hl (k := 3) rfl rfl (by decide) rfl (fun ls hl => ?_)
                  refine lv_goto (tgt := 14) X.1 X.2.1 dX4_click_108 (by decide) ?_
                  have q28 := inc_sp v3
                  exact ih1 p23.2 v1 1 (v3 + 1) hv1 (by omega) (by omega) _ _ hw hS ls (lv_sub hl [2, 3, 1, 0] rfl)
              · skip
                have t29 : ¬ (p12.2.1 9 v3.toNatClampNeg).toInt = 0 := i_ne c19
                refine lv_aload_n X.1 X.2.1 dX4_click_64 rfl (lv_at hl 0 rfl) ?_
                refine lv_dup X.1 X.2.1 dX4_click_65 rfl ?_
                refine gF X hw (by decide) hk_Mx rfl (by decide +kernel) 5 (by decide) (ref := "RankBench$Mix") rfl (by decide +kernel) rfl dX4_click_66 ?_
                refine lv_iconst (v := 1) X.1 X.2.1 dX4_click_69 (by decide) ?_
                refine lv_iadd X.1 X.2.1 dX4_click_70 ?_
                refine tni (fun x30 ex30 => ?_)
                refine pF X hw hS (ui p12.2 7 5 x30) (by decide) hk_Mx rfl (by decide +kernel) tyX4 tyX4_ok nmX4 5 (by decide) (ref := "RankBench$Mix") rfl (by decide +kernel) rfl rfl rfl (Nat.le_of_ble_eq_true rfl) (by rw [hk_Mx, ui_same]; rfl) (fun j hj => ui_ne hj) (fun j hj => rfl) (okK_ui hw.2.2.2.2 (Or.inr (Or.inl (by decide)))) dX4_click_71 (fun H locs hw hS => ?_)
                refine tpb (fun M31 eM31 => ?_)
                rw [← eM31] at hw
                refine lv_goto (tgt := 87) X.1 X.2.1 dX4_click_74 (by decide) ?_
                refine lv_aload_n X.1 X.2.1 dX4_click_87 rfl (lv_at hl 0 rfl) ?_
                refine cVJ [] [] X hw hS (c_X4_draw l G A M31 ) (cwV 0 X.2.2.2.2 gX4_click_X4_draw rfl rfl rfl (by decide +kernel) ⟨Nat.le_of_ble_eq_true rfl, Nat.le_of_ble_eq_true rfl⟩) (hw.recv (by decide) hk_Mx rfl) rfl rfl hl.1 (Nat.le_of_ble_eq_true rfl) dX4_click_88 (fun H locs hw hS => ?_)
                refine tpb (fun p32 ep32 => ?_)
                rw [← ep32] at hw
                rw [← ep32]
                refine lv_bipush (v := 100) X.1 X.2.1 dX4_click_91 (by decide) ?_
                refine lv_irem X.1 X.2.1 dX4_click_93 (by first | decide | assumption | omega) ?_
                refine lv_bipush (v := 50) X.1 X.2.1 dX4_click_94 (by decide) ?_
                refine bi_ge (tgt := 103) X dX4_click_96 (by decide) (fun c33 => ?_) (fun c33 => ?_)
                · skip
                  have t34 : 50 ≤ (p32.1 - p32.1 / 100 * 100).toInt := i_le c33
                  refine lv_iconst (v := 0) X.1 X.2.1 dX4_click_103 (by decide) ?_
                  refine lv_istore_n (lv' := [(2, .int 0), (0, .ref (G.2.2 7)), (1, .ref (G.2.2 v1)), (3, .int v3)]) X.1 X.2.1 dX4_click_104 rfl hl (by decide) rfl (fun ls hl => ?_)
                  refine lv_iinc (v := (v3 + 1)) (lv' := [(3, .int (v3 + 1)), (2, .int 0), (0, .ref (G.2.2 7)), (1, .ref (G.2.2 v1))]) X.1 X.2.1 dX4_click_105 hl (k := 3) rfl rfl (by decide) rfl (fun ls hl => ?_)
                  refine lv_goto (tgt := 14) X.1 X.2.1 dX4_click_108 (by decide) ?_
                  have q35 := inc_sp v3
                  exact ih1 p32.2 v1 0 (v3 + 1) hv1 (by omega) (by omega) _ _ hw hS ls (lv_sub hl [2, 3, 1, 0] rfl)
                · skip
                  have t36 : (p32.1 - p32.1 / 100 * 100).toInt < 50 := i_nle c33
                  refine lv_iconst (v := 1) X.1 X.2.1 dX4_click_99 (by decide) ?_
                  refine lv_goto (tgt := 104) X.1 X.2.1 dX4_click_100 (by decide) ?_
                  refine lv_istore_n (lv' := [(2, .int 1), (0, .ref (G.2.2 7)), (1, .ref (G.2.2 v1)), (3, .int v3)]) X.1 X.2.1 dX4_click_104 rfl hl (by decide) rfl (fun ls hl => ?_)
                  refine lv_iinc (v := (v3 + 1)) (lv' := [(3, .int (v3 + 1)), (2, .int 1), (0, .ref (G.2.2 7)), (1, .ref (G.2.2 v1))]) X.1 X.2.1 dX4_click_105 hl (k := 3) rfl rfl (by decide) rfl (fun ls hl => ?_)
                  refine lv_goto (tgt := 14) X.1 X.2.1 dX4_click_108 (by decide) ?_
                  have q37 := inc_sp v3
                  exact ih1 p32.2 v1 1 (v3 + 1) hv1 (by omega) (by omega) _ _ hw hS ls (lv_sub hl [2, 3, 1, 0] rfl)
  exact L1 17 M2 i1 0 0 hi1 (by decide) (by first | omega | decide) _ _ hw hS ls (lv_sub hl [2, 3, 1, 0] rfl)
