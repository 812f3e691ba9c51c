/-! 11.question -/
def f_X6_rowPlace (i0 : Nat) (a1 : Int32) : Option Nat := if a1 < 0 then none else (if (4 : Int32) ≤ a1 then none else (some (34 + 4 * ((i0 + 16) - 26) + a1.toNatClampNeg)))
set_option maxRecDepth 100000 in
set_option maxHeartbeats 4000000 in
theorem c_X6_rowPlace (l : Launch) (G : En) (A : Nat → Prop) (M : Mem) (i0 : Nat) (hi0 : 10 ≤ i0 ∧ i0 < 18) (a1 : Int32) : RdO true l yX6_rowPlace wsX6_rowPlace ({ frames := 0, cells := 0, slots := 0, locals := 0 }) G A M [.ref (G.2.2 i0), .int a1] (f_X6_rowPlace i0 a1) := by
  refine RdO.of (cc := cX6_rowPlace) (maxL := 2) (ret := (some (.object "RankBench$Row"))) (own := RX6) (by decide) rfl rfl (Nat.le_of_ble_eq_true rfl) ?_
  intro p e s m below meth c X hw hr hlk ls hl
  have hl : lv_has ls 2 [(0, .ref (G.2.2 i0)), (1, .int a1)] := hl
  unfold f_X6_rowPlace
  refine lv_iload_n X.1 X.2.1 dX6_rowPlace_0 rfl (lv_at hl 1 rfl) ?_
  refine bz_lt (tgt := 18) X dX6_rowPlace_1 (by decide) (fun c1 => ?_) (fun c1 => ?_)
  · skip
    have t2 : a1.toInt < 0 := i_lt c1
    refine lv_null X.1 X.2.1 dX6_rowPlace_18 ?_
    exact rN X hr hlk dX6_rowPlace_19
  · skip
    have t3 : 0 ≤ a1.toInt := i_nlt c1
    refine lv_iload_n X.1 X.2.1 dX6_rowPlace_4 rfl (lv_at hl 1 rfl) ?_
    refine lv_iconst (v := 4) X.1 X.2.1 dX6_rowPlace_5 (by decide) ?_
    refine bi_ge (tgt := 18) X dX6_rowPlace_6 (by decide) (fun c4 => ?_) (fun c4 => ?_)
    · skip
      have t5 : 4 ≤ a1.toInt := i_le c4
      refine lv_null X.1 X.2.1 dX6_rowPlace_18 ?_
      exact rN X hr hlk dX6_rowPlace_19
    · skip
      have t6 : a1.toInt < 4 := i_nle c4
      refine lv_aload_n X.1 X.2.1 dX6_rowPlace_9 rfl (lv_at hl 0 rfl) ?_
      refine gF X hw (lt98 (by have h9 := hi0; omega)) (hk_Q hi0) rfl (by decide +kernel) 1 (by decide) (ref := "RankBench$Question") rfl (by decide +kernel) rfl dX6_rowPlace_10 ?_
      refine lv_iload_n X.1 X.2.1 dX6_rowPlace_13 rfl (lv_at hl 1 rfl) ?_
      refine aR X hw (lt98 (by have h9 := (show 26 ≤ (i0 + 16) ∧ (i0 + 16) < 34 by have h9 := hi0; omega); omega)) (hk_Rs (show 26 ≤ (i0 + 16) ∧ (i0 + 16) < 34 by have h9 := hi0; omega)) (vp_in_iff.mpr ⟨by omega, by omega⟩) dX6_rowPlace_14 ?_
      have cl8 : a1.toNatClampNeg < 4 := clampN (by omega) (by omega)
      have hr7 : 34 ≤ (34 + 4 * ((i0 + 16) - 26) + a1.toNatClampNeg) ∧ (34 + 4 * ((i0 + 16) - 26) + a1.toNatClampNeg) < 66 := by have h9 := (show 26 ≤ (i0 + 16) ∧ (i0 + 16) < 34 by have h9 := hi0; omega); omega
      refine lv_goto (tgt := 19) X.1 X.2.1 dX6_rowPlace_15 (by decide) ?_
      exact rR X hr hlk dX6_rowPlace_19
theorem b_X6_rowPlace {i0 : Nat} {a1 : Int32} {o : Nat} (hi : 10 ≤ i0 ∧ i0 < 18) (h : f_X6_rowPlace i0 a1 = some o) : 34 ≤ o ∧ o < 66 := by
  unfold f_X6_rowPlace at h
  by_cases c1 : a1 < 0
  · rw [if_pos c1] at h; cases h
  · rw [if_neg c1] at h
    by_cases c2 : 4 ≤ a1
    · rw [if_pos c2] at h; cases h
    · rw [if_neg c2] at h
      cases h
      have t1 : 0 ≤ a1.toInt := i_nlt c1
      have t2 : a1.toInt < 4 := i_nle c2
      have t3 : a1.toNatClampNeg < 4 := clampN (by omega) (by omega)
      omega

def f_X6_gradeOf (M : Mem) (i0 : Nat) (a1 : Int32) : Int32 := if a1 < 0 then (-1) else (if (24 : Int32) ≤ a1 then (-1) else (M.1 (i0 + 8) a1.toNatClampNeg))
set_option maxRecDepth 100000 in
set_option maxHeartbeats 4000000 in
theorem c_X6_gradeOf (l : Launch) (G : En) (A : Nat → Prop) (M : Mem) (i0 : Nat) (hi0 : 10 ≤ i0 ∧ i0 < 18) (a1 : Int32) : RdI true l yX6_gradeOf wsX6_gradeOf ({ frames := 0, cells := 0, slots := 0, locals := 0 }) G A M [.ref (G.2.2 i0), .int a1] (f_X6_gradeOf M i0 a1) := by
  refine RdI.of (cc := cX6_gradeOf) (maxL := 2) (ret := (some .int)) (own := RX6) (by decide) rfl rfl (Nat.le_of_ble_eq_true rfl) ?_
  intro p e s m below meth c X hw hr hlk ls hl
  have hl : lv_has ls 2 [(0, .ref (G.2.2 i0)), (1, .int a1)] := hl
  unfold f_X6_gradeOf
  refine lv_iload_n X.1 X.2.1 dX6_gradeOf_0 rfl (lv_at hl 1 rfl) ?_
  refine bz_lt (tgt := 19) X dX6_gradeOf_1 (by decide) (fun c1 => ?_) (fun c1 => ?_)
  · skip
    have t2 : a1.toInt < 0 := i_lt c1
    refine lv_iconst (v := (-1)) X.1 X.2.1 dX6_gradeOf_19 (by decide) ?_
    exact rI X hr hlk dX6_gradeOf_20
  · skip
    have t3 : 0 ≤ a1.toInt := i_nlt c1
    refine lv_iload_n X.1 X.2.1 dX6_gradeOf_4 rfl (lv_at hl 1 rfl) ?_
    refine lv_bipush (v := 24) X.1 X.2.1 dX6_gradeOf_5 (by decide) ?_
    refine bi_ge (tgt := 19) X dX6_gradeOf_7 (by decide) (fun c4 => ?_) (fun c4 => ?_)
    · skip
      have t5 : 24 ≤ a1.toInt := i_le c4
      refine lv_iconst (v := (-1)) X.1 X.2.1 dX6_gradeOf_19 (by decide) ?_
      exact rI X hr hlk dX6_gradeOf_20
    · skip
      have t6 : a1.toInt < 24 := i_nle c4
      refine lv_aload_n X.1 X.2.1 dX6_gradeOf_10 rfl (lv_at hl 0 rfl) ?_
      refine gF X hw (lt98 (by have h9 := hi0; omega)) (hk_Q hi0) rfl (by decide +kernel) 0 (by decide) (ref := "RankBench$Question") rfl (by decide +kernel) rfl dX6_gradeOf_11 ?_
      refine lv_iload_n X.1 X.2.1 dX6_gradeOf_14 rfl (lv_at hl 1 rfl) ?_
      refine aI X hw (lt98 (by have h9 := (show 18 ≤ (i0 + 8) ∧ (i0 + 8) < 26 by have h9 := hi0; omega); omega)) (hk_Gr (show 18 ≤ (i0 + 8) ∧ (i0 + 8) < 26 by have h9 := hi0; omega)) (vp_in_iff.mpr ⟨by omega, by omega⟩) dX6_gradeOf_15 ?_
      refine lv_goto (tgt := 20) X.1 X.2.1 dX6_gradeOf_16 (by decide) ?_
      exact rI X hr hlk dX6_gradeOf_20

def f_X6_isGood (M : Mem) (i0 : Nat) (a1 : Int32) : Int32 := bnd (f_X6_gradeOf M i0 a1) (fun r1 => if r1 < 1 then 0 else 1)
set_option maxRecDepth 100000 in
set_option maxHeartbeats 4000000 in
theorem c_X6_isGood (l : Launch) (G : En) (A : Nat → Prop) (M : Mem) (i0 : Nat) (hi0 : 10 ≤ i0 ∧ i0 < 18) (a1 : Int32) : RdI true l yX6_isGood wsX6_isGood ({ frames := 1, cells := 0, slots := 0, locals := 21 }) G A M [.ref (G.2.2 i0), .int a1] (f_X6_isGood M i0 a1) := by
  refine RdI.of (cc := cX6_isGood) (maxL := 2) (ret := (some .boolean)) (own := RX6) (by decide) rfl rfl (Nat.le_of_ble_eq_true rfl) ?_
  intro p e s m below meth c X hw hr hlk ls hl
  have hl : lv_has ls 2 [(0, .ref (G.2.2 i0)), (1, .int a1)] := hl
  unfold f_X6_isGood
  refine lv_aload_n X.1 X.2.1 dX6_isGood_0 rfl (lv_at hl 0 rfl) ?_
  refine lv_iload_n X.1 X.2.1 dX6_isGood_1 rfl (lv_at hl 1 rfl) ?_
  refine cVI [.int a1] [] X hw (c_X6_gradeOf l G A M i0 hi0 a1) (cwV 1 X.2.2.2.2 gX6_isGood_X6_gradeOf rfl rfl rfl (by decide +kernel) ⟨Nat.le_of_ble_eq_true rfl, Nat.le_of_ble_eq_true rfl⟩) (hw.recv (lt98 (by have h9 := hi0; omega)) (hk_Q hi0) rfl) rfl rfl hl.1 (Nat.le_of_ble_eq_true rfl) dX6_isGood_2 ?_
  refine tni (fun r1 er1 => ?_)
  refine lv_iconst (v := 1) X.1 X.2.1 dX6_isGood_5 (by decide) ?_
  refine bi_lt (tgt := 13) X dX6_isGood_6 (by decide) (fun c2 => ?_) (fun c2 => ?_)
  · skip
    have t3 : r1.toInt < 1 := i_lt c2
    refine lv_iconst (v := 0) X.1 X.2.1 dX6_isGood_13 (by decide) ?_
    exact rZ X hr hlk rfl dX6_isGood_14
  · skip
    have t4 : 1 ≤ r1.toInt := i_nlt c2
    refine lv_iconst (v := 1) X.1 X.2.1 dX6_isGood_9 (by decide) ?_
    refine lv_goto (tgt := 14) X.1 X.2.1 dX6_isGood_10 (by decide) ?_
    exact rZ X hr hlk rfl dX6_isGood_14

def f_X6_judge (M : Mem) (i0 : Nat) (a1 : Int32) (a2 : Int32) : Mem := if a1 < 0 then M else (if (24 : Int32) ≤ a1 then M else (bnd (ui M (i0 + 8) a1.toNatClampNeg a2) (fun M7 => M7)))
set_option maxRecDepth 100000 in
set_option maxHeartbeats 4000000 in
theorem c_X6_judge (l : Launch) (G : En) (A : Nat → Prop) (M : Mem) (i0 : Nat) (hi0 : 10 ≤ i0 ∧ i0 < 18) (a1 : Int32) (a2 : Int32) : WrV true l yX6_judge wsX6_judge ({ frames := 0, cells := 0, slots := 0, locals := 0 }) G A M [.ref (G.2.2 i0), .int a1, .int a2] (f_X6_judge M i0 a1 a2) := by
  refine WrV.of (cc := cX6_judge) (maxL := 3) (ret := none) (own := RX6) (by decide) rfl rfl (Nat.le_of_ble_eq_true rfl) ?_
  intro p e s m below meth c X hw hr hlk ls hl hS
  have hl : lv_has ls 3 [(0, .ref (G.2.2 i0)), (1, .int a1), (2, .int a2)] := hl
  unfold f_X6_judge
  refine lv_iload_n X.1 X.2.1 dX6_judge_0 rfl (lv_at hl 1 rfl) ?_
  refine bz_lt (tgt := 17) X dX6_judge_1 (by decide) (fun c1 => ?_) (fun c1 => ?_)
  · skip
    have t2 : a1.toInt < 0 := i_lt c1
    exact rV X hr hlk hw hS dX6_judge_17
  · skip
    have t3 : 0 ≤ a1.toInt := i_nlt c1
    refine lv_iload_n X.1 X.2.1 dX6_judge_4 rfl (lv_at hl 1 rfl) ?_
    refine lv_bipush (v := 24) X.1 X.2.1 dX6_judge_5 (by decide) ?_
    refine bi_ge (tgt := 17) X dX6_judge_7 (by decide) (fun c4 => ?_) (fun c4 => ?_)
    · skip
      have t5 : 24 ≤ a1.toInt := i_le c4
      exact rV X hr hlk hw hS dX6_judge_17
    · skip
      have t6 : a1.toInt < 24 := i_nle c4
      refine lv_aload_n X.1 X.2.1 dX6_judge_10 rfl (lv_at hl 0 rfl) ?_
      refine gF X hw (lt98 (by have h9 := hi0; omega)) (hk_Q hi0) rfl (by decide +kernel) 0 (by decide) (ref := "RankBench$Question") rfl (by decide +kernel) rfl dX6_judge_11 ?_
      refine lv_iload_n X.1 X.2.1 dX6_judge_14 rfl (lv_at hl 1 rfl) ?_
      refine lv_iload_n X.1 X.2.1 dX6_judge_15 rfl (lv_at hl 2 rfl) ?_
      refine sI X hw hS (ui M (i0 + 8) a1.toNatClampNeg a2) (lt98 (by have h9 := (show 18 ≤ (i0 + 8) ∧ (i0 + 8) < 26 by have h9 := hi0; omega); omega)) (hk_Gr (show 18 ≤ (i0 + 8) ∧ (i0 + 8) < 26 by have h9 := hi0; omega)) (vp_in_iff.mpr ⟨by omega, by omega⟩) (by rw [hk_Gr (show 18 ≤ (i0 + 8) ∧ (i0 + 8) < 26 by have h9 := hi0; omega), ui_same]) (fun j hj => ui_ne hj) (fun j hj => rfl) (okK_ui hw.2.2.2.2 (Or.inr (Or.inl (by have h9 := (show 18 ≤ (i0 + 8) ∧ (i0 + 8) < 26 by have h9 := hi0; omega); omega)))) dX6_judge_16 (fun H locs hw hS => ?_)
      refine tpb (fun M7 eM7 => ?_)
      rw [← eM7] at hw
      exact rV X hr hlk hw hS dX6_judge_17

def f_X6_gradedWith_4 : Nat → Mem → Nat → Int32 → Int32 → Int32 → Int32
  | 0, M, _, _, _, _ => 0
  | n1 + 1, M, v0, v1, v2, v3 => if (24 : Int32) ≤ v3 then v2 else (if (M.1 (v0 + 8) v3.toNatClampNeg) = v1 then (f_X6_gradedWith_4 n1 M v0 v1 (v2 + 1) (v3 + 1)) else (f_X6_gradedWith_4 n1 M v0 v1 v2 (v3 + 1)))
def f_X6_gradedWith (M : Mem) (i0 : Nat) (a1 : Int32) : Int32 := f_X6_gradedWith_4 25 M i0 a1 0 0
set_option maxRecDepth 100000 in
set_option maxHeartbeats 4000000 in
theorem c_X6_gradedWith (l : Launch) (G : En) (A : Nat → Prop) (M : Mem) (i0 : Nat) (hi0 : 10 ≤ i0 ∧ i0 < 18) (a1 : Int32) : RdI true l yX6_gradedWith wsX6_gradedWith ({ frames := 0, cells := 0, slots := 0, locals := 0 }) G A M [.ref (G.2.2 i0), .int a1] (f_X6_gradedWith M i0 a1) := by
  refine RdI.of (cc := cX6_gradedWith) (maxL := 4) (ret := (some .int)) (own := RX6) (by decide) rfl rfl (Nat.le_of_ble_eq_true rfl) ?_
  intro p e s m below meth c X hw hr hlk ls hl
  have hl : lv_has ls 4 [(0, .ref (G.2.2 i0)), (1, .int a1)] := hl
  unfold f_X6_gradedWith
  refine lv_iconst (v := 0) X.1 X.2.1 dX6_gradedWith_0 (by decide) ?_
  refine lv_istore_n (lv' := [(2, .int 0), (0, .ref (G.2.2 i0)), (1, .int a1)]) X.1 X.2.1 dX6_gradedWith_1 rfl hl (by decide) rfl (fun ls hl => ?_)
  refine lv_iconst (v := 0) X.1 X.2.1 dX6_gradedWith_2 (by decide) ?_
  refine lv_istore_n (lv' := [(3, .int 0), (2, .int 0), (0, .ref (G.2.2 i0)), (1, .int a1)]) X.1 X.2.1 dX6_gradedWith_3 rfl hl (by decide) rfl (fun ls hl => ?_)
  have L1 : ∀ (n1 : Nat) (v0 : Nat) (v1 : Int32) (v2 : Int32) (v3 : Int32) (hv0 : 10 ≤ v0 ∧ v0 < 18) (hm1 : (24 - v3.toInt : Int).toNat < n1) (hi1_0 : 0 ≤ v3.toInt), ∀ ls : Array Slot, lv_has ls 4 [(0, .ref (G.2.2 v0)), (1, .int v1), (2, .int v2), (3, .int v3)] → W p l e ({ frames := 0, cells := 0, slots := 0, locals := 0 } : Room) s m ([.ref (G.2.2 i0), .int a1] : List Value).toArray below meth c s.heap [] 0 0 (TSi below ([.ref (G.2.2 i0), .int a1] : List Value).toArray s (f_X6_gradedWith_4 n1 M v0 v1 v2 v3)) (F0 m 4 ls []) := by
    intro n1
    induction n1 with
    | zero => intro v0 v1 v2 v3 hv0 hm1 hi1_0; exact absurd hm1 (by omega)
    | succ n1 ih1 =>
      intro v0 v1 v2 v3 hv0 hm1 hi1_0 ls hl
      rw [f_X6_gradedWith_4]
      refine lv_iload_n X.1 X.2.1 dX6_gradedWith_4 rfl (lv_at hl 3 rfl) ?_
      refine lv_bipush (v := 24) X.1 X.2.1 dX6_gradedWith_5 (by decide) ?_
      refine bi_ge (tgt := 29) X dX6_gradedWith_7 (by decide) (fun c1 => ?_) (fun c1 => ?_)
      · skip
        have t2 : 24 ≤ v3.toInt := i_le c1
        refine lv_iload_n X.1 X.2.1 dX6_gradedWith_29 rfl (lv_at hl 2 rfl) ?_
        exact rI X hr hlk dX6_gradedWith_30
      · skip
        have t3 : v3.toInt < 24 := i_nle c1
        refine lv_aload_n X.1 X.2.1 dX6_gradedWith_10 rfl (lv_at hl 0 rfl) ?_
        refine gF X hw (lt98 (by have h9 := hv0; omega)) (hk_Q hv0) rfl (by decide +kernel) 0 (by decide) (ref := "RankBench$Question") rfl (by decide +kernel) rfl dX6_gradedWith_11 ?_
        refine lv_iload_n X.1 X.2.1 dX6_gradedWith_14 rfl (lv_at hl 3 rfl) ?_
        refine aI X hw (lt98 (by have h9 := (show 18 ≤ (v0 + 8) ∧ (v0 + 8) < 26 by have h9 := hv0; omega); omega)) (hk_Gr (show 18 ≤ (v0 + 8) ∧ (v0 + 8) < 26 by have h9 := hv0; omega)) (vp_in_iff.mpr ⟨by omega, by omega⟩) dX6_gradedWith_15 ?_
        refine lv_iload_n X.1 X.2.1 dX6_gradedWith_16 rfl (lv_at hl 1 rfl) ?_
        refine bi_ne (tgt := 23) X dX6_gradedWith_17 (by decide) (fun c4 => ?_) (fun c4 => ?_)
        · skip
          have t5 : ¬ (M.1 (v0 + 8) v3.toNatClampNeg).toInt = v1.toInt := i_ne c4
          refine lv_iinc (v := (v3 + 1)) (lv' := [(3, .int (v3 + 1)), (0, .ref (G.2.2 v0)), (1, .int v1), (2, .int v2)]) X.1 X.2.1 dX6_gradedWith_23 hl (k := 3) rfl rfl (by decide) rfl (fun ls hl => ?_)
          refine lv_goto (tgt := 4) X.1 X.2.1 dX6_gradedWith_26 (by decide) ?_
          have q6 := inc_sp v3
          exact ih1 v0 v1 v2 (v3 + 1) hv0 (by omega) (by omega)  ls (lv_sub hl [1, 2, 3, 0] rfl)
        · skip
          have t7 : (M.1 (v0 + 8) v3.toNatClampNeg).toInt = v1.toInt := i_eq c4
          refine lv_iinc (v := (v2 + 1)) (lv' := [(2, .int (v2 + 1)), (0, .ref (G.2.2 v0)), (1, .int v1), (3, .int v3)]) X.1 X.2.1 dX6_gradedWith_20 hl (k := 2) rfl rfl (by decide) rfl (fun ls hl => ?_)
          refine lv_iinc (v := (v3 + 1)) (lv' := [(3, .int (v3 + 1)), (2, .int (v2 + 1)), (0, .ref (G.2.2 v0)), (1, .int v1)]) X.1 X.2.1 dX6_gradedWith_23 hl (k := 3) rfl rfl (by decide) rfl (fun ls hl => ?_)
          refine lv_goto (tgt := 4) X.1 X.2.1 dX6_gradedWith_26 (by decide) ?_
          have q8 := inc_sp v2
          have q9 := inc_sp v3
          exact ih1 v0 v1 (v2 + 1) (v3 + 1) hv0 (by omega) (by omega)  ls (lv_sub hl [2, 3, 1, 0] rfl)
  exact L1 25 i0 a1 0 0 hi0 (by decide) (by first | omega | decide)  ls (lv_sub hl [2, 3, 1, 0] rfl)

def f_X6_goodOnes_4 : Nat → Mem → Nat → Int32 → Int32 → Int32
  | 0, M, _, _, _ => 0
  | n1 + 1, M, v0, v1, v2 => if (24 : Int32) ≤ v2 then v1 else (if (M.1 (v0 + 8) v2.toNatClampNeg) < 1 then (f_X6_goodOnes_4 n1 M v0 v1 (v2 + 1)) else (f_X6_goodOnes_4 n1 M v0 (v1 + 1) (v2 + 1)))
def f_X6_goodOnes (M : Mem) (i0 : Nat) : Int32 := f_X6_goodOnes_4 25 M i0 0 0
set_option maxRecDepth 100000 in
set_option maxHeartbeats 4000000 in
theorem c_X6_goodOnes (l : Launch) (G : En) (A : Nat → Prop) (M : Mem) (i0 : Nat) (hi0 : 10 ≤ i0 ∧ i0 < 18) : RdI true l yX6_goodOnes wsX6_goodOnes ({ frames := 0, cells := 0, slots := 0, locals := 0 }) G A M [.ref (G.2.2 i0)] (f_X6_goodOnes M i0) := by
  refine RdI.of (cc := cX6_goodOnes) (maxL := 3) (ret := (some .int)) (own := RX6) (by decide) rfl rfl (Nat.le_of_ble_eq_true rfl) ?_
  intro p e s m below meth c X hw hr hlk ls hl
  have hl : lv_has ls 3 [(0, .ref (G.2.2 i0))] := hl
  unfold f_X6_goodOnes
  refine lv_iconst (v := 0) X.1 X.2.1 dX6_goodOnes_0 (by decide) ?_
  refine lv_istore_n (lv' := [(1, .int 0), (0, .ref (G.2.2 i0))]) X.1 X.2.1 dX6_goodOnes_1 rfl hl (by decide) rfl (fun ls hl => ?_)
  refine lv_iconst (v := 0) X.1 X.2.1 dX6_goodOnes_2 (by decide) ?_
  refine lv_istore_n (lv' := [(2, .int 0), (1, .int 0), (0, .ref (G.2.2 i0))]) X.1 X.2.1 dX6_goodOnes_3 rfl hl (by decide) rfl (fun ls hl => ?_)
  have L1 : ∀ (n1 : Nat) (v0 : Nat) (v1 : Int32) (v2 : Int32) (hv0 : 10 ≤ v0 ∧ v0 < 18) (hm1 : (24 - v2.toInt : Int).toNat < n1) (hi1_0 : 0 ≤ v2.toInt), ∀ ls : Array Slot, lv_has ls 3 [(0, .ref (G.2.2 v0)), (1, .int v1), (2, .int v2)] → W p l e ({ frames := 0, cells := 0, slots := 0, locals := 0 } : Room) s m ([.ref (G.2.2 i0)] : List Value).toArray below meth c s.heap [] 0 0 (TSi below ([.ref (G.2.2 i0)] : List Value).toArray s (f_X6_goodOnes_4 n1 M v0 v1 v2)) (F0 m 4 ls []) := by
    intro n1
    induction n1 with
    | zero => intro v0 v1 v2 hv0 hm1 hi1_0; exact absurd hm1 (by omega)
    | succ n1 ih1 =>
      intro v0 v1 v2 hv0 hm1 hi1_0 ls hl
      rw [f_X6_goodOnes_4]
      refine lv_iload_n X.1 X.2.1 dX6_goodOnes_4 rfl (lv_at hl 2 rfl) ?_
      refine lv_bipush (v := 24) X.1 X.2.1 dX6_goodOnes_5 (by decide) ?_
      refine bi_ge (tgt := 29) X dX6_goodOnes_7 (by decide) (fun c1 => ?_) (fun c1 => ?_)
      · skip
        have t2 : 24 ≤ v2.toInt := i_le c1
        refine lv_iload_n X.1 X.2.1 dX6_goodOnes_29 rfl (lv_at hl 1 rfl) ?_
        exact rI X hr hlk dX6_goodOnes_30
      · skip
        have t3 : v2.toInt < 24 := i_nle c1
        refine lv_aload_n X.1 X.2.1 dX6_goodOnes_10 rfl (lv_at hl 0 rfl) ?_
        refine gF X hw (lt98 (by have h9 := hv0; omega)) (hk_Q hv0) rfl (by decide +kernel) 0 (by decide) (ref := "RankBench$Question") rfl (by decide +kernel) rfl dX6_goodOnes_11 ?_
        refine lv_iload_n X.1 X.2.1 dX6_goodOnes_14 rfl (lv_at hl 2 rfl) ?_
        refine aI X hw (lt98 (by have h9 := (show 18 ≤ (v0 + 8) ∧ (v0 + 8) < 26 by have h9 := hv0; omega); omega)) (hk_Gr (show 18 ≤ (v0 + 8) ∧ (v0 + 8) < 26 by have h9 := hv0; omega)) (vp_in_iff.mpr ⟨by omega, by omega⟩) dX6_goodOnes_15 ?_
        refine lv_iconst (v := 1) X.1 X.2.1 dX6_goodOnes_16 (by decide) ?_
        refine bi_lt (tgt := 23) X dX6_goodOnes_17 (by decide) (fun c4 => ?_) (fun c4 => ?_)
        · skip
          have t5 : (M.1 (v0 + 8) v2.toNatClampNeg).toInt < 1 := i_lt c4
          refine lv_iinc (v := (v2 + 1)) (lv' := [(2, .int (v2 + 1)), (0, .ref (G.2.2 v0)), (1, .int v1)]) X.1 X.2.1 dX6_goodOnes_23 hl (k := 2) rfl rfl (by decide) rfl (fun ls hl => ?_)
          refine lv_goto (tgt := 4) X.1 X.2.1 dX6_goodOnes_26 (by decide) ?_
          have q6 := inc_sp v2
          exact ih1 v0 v1 (v2 + 1) hv0 (by omega) (by omega)  ls (lv_sub hl [1, 2, 0] rfl)
        · skip
          have t7 : 1 ≤ (M.1 (v0 + 8) v2.toNatClampNeg).toInt := i_nlt c4
          refine lv_iinc (v := (v1 + 1)) (lv' := [(1, .int (v1 + 1)), (0, .ref (G.2.2 v0)), (2, .int v2)]) X.1 X.2.1 dX6_goodOnes_20 hl (k := 1) rfl rfl (by decide) rfl (fun ls hl => ?_)
          refine lv_iinc (v := (v2 + 1)) (lv' := [(2, .int (v2 + 1)), (1, .int (v1 + 1)), (0, .ref (G.2.2 v0))]) X.1 X.2.1 dX6_goodOnes_23 hl (k := 2) rfl rfl (by decide) rfl (fun ls hl => ?_)
          refine lv_goto (tgt := 4) X.1 X.2.1 dX6_goodOnes_26 (by decide) ?_
          have q8 := inc_sp v1
          have q9 := inc_sp v2
          exact ih1 v0 (v1 + 1) (v2 + 1) hv0 (by omega) (by omega)  ls (lv_sub hl [2, 1, 0] rfl)
  exact L1 25 i0 0 0 hi0 (by decide) (by first | omega | decide)  ls (lv_sub hl [2, 1, 0] rfl)

def f_X6_toldRows_4 : Nat → Mem → Nat → Int32 → Int32 → Int32
  | 0, M, _, _, _ => 0
  | n1 + 1, M, v0, v1, v2 => if (4 : Int32) ≤ v2 then v1 else (bnd (f_X7_isTold M (34 + 4 * ((v0 + 16) - 26) + v2.toNatClampNeg)) (fun r6 => if r6 = 0 then (f_X6_toldRows_4 n1 M v0 v1 (v2 + 1)) else (f_X6_toldRows_4 n1 M v0 (v1 + 1) (v2 + 1))))
def f_X6_toldRows (M : Mem) (i0 : Nat) : Int32 := f_X6_toldRows_4 5 M i0 0 0
set_option maxRecDepth 100000 in
set_option maxHeartbeats 4000000 in
theorem c_X6_toldRows (l : Launch) (G : En) (A : Nat → Prop) (M : Mem) (i0 : Nat) (hi0 : 10 ≤ i0 ∧ i0 < 18) : RdI true l yX6_toldRows wsX6_toldRows ({ frames := 1, cells := 0, slots := 0, locals := 20 }) G A M [.ref (G.2.2 i0)] (f_X6_toldRows M i0) := by
  refine RdI.of (cc := cX6_toldRows) (maxL := 4) (ret := (some .int)) (own := RX6) (by decide) rfl rfl (Nat.le_of_ble_eq_true rfl) ?_
  intro p e s m below meth c X hw hr hlk ls hl
  have hl : lv_has ls 4 [(0, .ref (G.2.2 i0))] := hl
  unfold f_X6_toldRows
  refine lv_iconst (v := 0) X.1 X.2.1 dX6_toldRows_0 (by decide) ?_
  refine lv_istore_n (lv' := [(1, .int 0), (0, .ref (G.2.2 i0))]) X.1 X.2.1 dX6_toldRows_1 rfl hl (by decide) rfl (fun ls hl => ?_)
  refine lv_iconst (v := 0) X.1 X.2.1 dX6_toldRows_2 (by decide) ?_
  refine lv_istore_n (lv' := [(2, .int 0), (1, .int 0), (0, .ref (G.2.2 i0))]) X.1 X.2.1 dX6_toldRows_3 rfl hl (by decide) rfl (fun ls hl => ?_)
  have L1 : ∀ (n1 : Nat) (v0 : Nat) (v1 : Int32) (v2 : Int32) (hv0 : 10 ≤ v0 ∧ v0 < 18) (hm1 : (4 - v2.toInt : Int).toNat < n1) (hi1_0 : 0 ≤ v2.toInt), ∀ ls : Array Slot, lv_has ls 4 [(0, .ref (G.2.2 v0)), (1, .int v1), (2, .int v2)] → W p l e ({ frames := 1, cells := 0, slots := 0, locals := 20 } : Room) s m ([.ref (G.2.2 i0)] : List Value).toArray below meth c s.heap [] 0 0 (TSi below ([.ref (G.2.2 i0)] : List Value).toArray s (f_X6_toldRows_4 n1 M v0 v1 v2)) (F0 m 4 ls []) := by
    intro n1
    induction n1 with
    | zero => intro v0 v1 v2 hv0 hm1 hi1_0; exact absurd hm1 (by omega)
    | succ n1 ih1 =>
      intro v0 v1 v2 hv0 hm1 hi1_0 ls hl
      rw [f_X6_toldRows_4]
      refine lv_iload_n X.1 X.2.1 dX6_toldRows_4 rfl (lv_at hl 2 rfl) ?_
      refine lv_iconst (v := 4) X.1 X.2.1 dX6_toldRows_5 (by decide) ?_
      refine bi_ge (tgt := 36) X dX6_toldRows_6 (by decide) (fun c1 => ?_) (fun c1 => ?_)
      · skip
        have t2 : 4 ≤ v2.toInt := i_le c1
        refine lv_iload_n X.1 X.2.1 dX6_toldRows_36 rfl (lv_at hl 1 rfl) ?_
        exact rI X hr hlk dX6_toldRows_37
      · skip
        have t3 : v2.toInt < 4 := i_nle c1
        refine lv_aload_n X.1 X.2.1 dX6_toldRows_9 rfl (lv_at hl 0 rfl) ?_
        refine gF X hw (lt98 (by have h9 := hv0; omega)) (hk_Q hv0) rfl (by decide +kernel) 1 (by decide) (ref := "RankBench$Question") rfl (by decide +kernel) rfl dX6_toldRows_10 ?_
        refine lv_iload_n X.1 X.2.1 dX6_toldRows_13 rfl (lv_at hl 2 rfl) ?_
        refine aR X hw (lt98 (by have h9 := (show 26 ≤ (v0 + 16) ∧ (v0 + 16) < 34 by have h9 := hv0; omega); omega)) (hk_Rs (show 26 ≤ (v0 + 16) ∧ (v0 + 16) < 34 by have h9 := hv0; omega)) (vp_in_iff.mpr ⟨by omega, by omega⟩) dX6_toldRows_14 ?_
        have cl5 : v2.toNatClampNeg < 4 := clampN (by omega) (by omega)
        have hr4 : 34 ≤ (34 + 4 * ((v0 + 16) - 26) + v2.toNatClampNeg) ∧ (34 + 4 * ((v0 + 16) - 26) + v2.toNatClampNeg) < 66 := by have h9 := (show 26 ≤ (v0 + 16) ∧ (v0 + 16) < 34 by have h9 := hv0; omega); omega
        refine lv_astore_n (lv' := [(3, .ref (G.2.2 (34 + 4 * ((v0 + 16) - 26) + v2.toNatClampNeg))), (0, .ref (G.2.2 v0)), (1, .int v1), (2, .int v2)]) X.1 X.2.1 dX6_toldRows_15 rfl hl (by decide) rfl (fun ls hl => ?_)
        refine lv_aload_n X.1 X.2.1 dX6_toldRows_16 rfl (lv_at hl 0 rfl) ?_
        refine lv_ifnull X.1 X.2.1 dX6_toldRows_17 ?_
        refine lv_aload_n X.1 X.2.1 dX6_toldRows_20 rfl (lv_at hl 0 rfl) ?_
        refine cVI [] [] X hw (c_X7_isTold l G A M (34 + 4 * ((v0 + 16) - 26) + v2.toNatClampNeg) hr4) (cwV 0 X.2.2.2.2 gX6_toldRows_X7_isTold rfl rfl rfl (by decide +kernel) ⟨Nat.le_of_ble_eq_true rfl, Nat.le_of_ble_eq_true rfl⟩) (hw.recv (lt98 (by have h9 := hr4; omega)) (hk_Row hr4) rfl) rfl rfl hl.1 (Nat.le_of_ble_eq_true rfl) dX6_toldRows_21 ?_
        refine tni (fun r6 er6 => ?_)
        refine bz_eq (tgt := 30) X dX6_toldRows_24 (by decide) (fun c7 => ?_) (fun c7 => ?_)
        · skip
          have t8 : r6.toInt = 0 := i_eq c7
          refine lv_iinc (v := (v2 + 1)) (lv' := [(2, .int (v2 + 1)), (3, .ref (G.2.2 (34 + 4 * ((v0 + 16) - 26) + v2.toNatClampNeg))), (0, .ref (G.2.2 v0)), (1, .int v1)]) X.1 X.2.1 dX6_toldRows_30 hl (k := 3) rfl rfl (by decide) rfl (fun ls hl => ?_)
          refine lv_goto (tgt := 4) X.1 X.2.1 dX6_toldRows_33 (by decide) ?_
          have q9 := inc_sp v2
          exact ih1 v0 v1 (v2 + 1) hv0 (by omega) (by omega)  ls (lv_sub hl [2, 3, 0] rfl)
        · skip
          have t10 : ¬ r6.toInt = 0 := i_ne c7
          refine lv_iinc (v := (v1 + 1)) (lv' := [(1, .int (v1 + 1)), (3, .ref (G.2.2 (34 + 4 * ((v0 + 16) - 26) + v2.toNatClampNeg))), (0, .ref (G.2.2 v0)), (2, .int v2)]) X.1 X.2.1 dX6_toldRows_27 hl (k := 2) rfl rfl (by decide) rfl (fun ls hl => ?_)
          refine lv_iinc (v := (v2 + 1)) (lv' := [(2, .int (v2 + 1)), (1, .int (v1 + 1)), (3, .ref (G.2.2 (34 + 4 * ((v0 + 16) - 26) + v2.toNatClampNeg))), (0, .ref (G.2.2 v0))]) X.1 X.2.1 dX6_toldRows_30 hl (k := 3) rfl rfl (by decide) rfl (fun ls hl => ?_)
          refine lv_goto (tgt := 4) X.1 X.2.1 dX6_toldRows_33 (by decide) ?_
          have q11 := inc_sp v1
          have q12 := inc_sp v2
          exact ih1 v0 (v1 + 1) (v2 + 1) hv0 (by omega) (by omega)  ls (lv_sub hl [3, 1, 0] rfl)
  exact L1 5 i0 0 0 hi0 (by decide) (by first | omega | decide)  ls (lv_sub hl [2, 1, 0] rfl)

def f_X6_isAmongFirst_2 : Nat → Mem → Nat → Int32 → Int32 → Int32 → Int32
  | 0, M, _, _, _, _ => 0
  | n1 + 1, M, v0, v1, v2, v3 => if (4 : Int32) ≤ v3 then 0 else (bnd (f_X7_hasAmongFirst M (34 + 4 * ((v0 + 16) - 26) + v3.toNatClampNeg) v1 v2) (fun r6 => if r6 = 0 then (f_X6_isAmongFirst_2 n1 M v0 v1 v2 (v3 + 1)) else 1))
def f_X6_isAmongFirst (M : Mem) (i0 : Nat) (a1 : Int32) (a2 : Int32) : Int32 := f_X6_isAmongFirst_2 5 M i0 a1 a2 0
set_option maxRecDepth 100000 in
set_option maxHeartbeats 4000000 in
theorem c_X6_isAmongFirst (l : Launch) (G : En) (A : Nat → Prop) (M : Mem) (i0 : Nat) (hi0 : 10 ≤ i0 ∧ i0 < 18) (a1 : Int32) (a2 : Int32) : RdI true l yX6_isAmongFirst wsX6_isAmongFirst ({ frames := 2, cells := 0, slots := 0, locals := 45 }) G A M [.ref (G.2.2 i0), .int a1, .int a2] (f_X6_isAmongFirst M i0 a1 a2) := by
  refine RdI.of (cc := cX6_isAmongFirst) (maxL := 5) (ret := (some .boolean)) (own := RX6) (by decide) rfl rfl (Nat.le_of_ble_eq_true rfl) ?_
  intro p e s m below meth c X hw hr hlk ls hl
  have hl : lv_has ls 5 [(0, .ref (G.2.2 i0)), (1, .int a1), (2, .int a2)] := hl
  unfold f_X6_isAmongFirst
  refine lv_iconst (v := 0) X.1 X.2.1 dX6_isAmongFirst_0 (by decide) ?_
  refine lv_istore_n (lv' := [(3, .int 0), (0, .ref (G.2.2 i0)), (1, .int a1), (2, .int a2)]) X.1 X.2.1 dX6_isAmongFirst_1 rfl hl (by decide) rfl (fun ls hl => ?_)
  have L1 : ∀ (n1 : Nat) (v0 : Nat) (v1 : Int32) (v2 : Int32) (v3 : Int32) (hv0 : 10 ≤ v0 ∧ v0 < 18) (hm1 : (4 - v3.toInt : Int).toNat < n1) (hi1_0 : 0 ≤ v3.toInt), ∀ ls : Array Slot, lv_has ls 5 [(0, .ref (G.2.2 v0)), (1, .int v1), (2, .int v2), (3, .int v3)] → W p l e ({ frames := 2, cells := 0, slots := 0, locals := 45 } : Room) s m ([.ref (G.2.2 i0), .int a1, .int a2] : List Value).toArray below meth c s.heap [] 0 0 (TSi below ([.ref (G.2.2 i0), .int a1, .int a2] : List Value).toArray s (f_X6_isAmongFirst_2 n1 M v0 v1 v2 v3)) (F0 m 2 ls []) := by
    intro n1
    induction n1 with
    | zero => intro v0 v1 v2 v3 hv0 hm1 hi1_0; exact absurd hm1 (by omega)
    | succ n1 ih1 =>
      intro v0 v1 v2 v3 hv0 hm1 hi1_0 ls hl
      rw [f_X6_isAmongFirst_2]
      refine lv_iload_n X.1 X.2.1 dX6_isAmongFirst_2 rfl (lv_at hl 3 rfl) ?_
      refine lv_iconst (v := 4) X.1 X.2.1 dX6_isAmongFirst_3 (by decide) ?_
      refine bi_ge (tgt := 38) X dX6_isAmongFirst_4 (by decide) (fun c1 => ?_) (fun c1 => ?_)
      · skip
        have t2 : 4 ≤ v3.toInt := i_le c1
        refine lv_iconst (v := 0) X.1 X.2.1 dX6_isAmongFirst_38 (by decide) ?_
        exact rZ X hr hlk rfl dX6_isAmongFirst_39
      · skip
        have t3 : v3.toInt < 4 := i_nle c1
        refine lv_aload_n X.1 X.2.1 dX6_isAmongFirst_7 rfl (lv_at hl 0 rfl) ?_
        refine gF X hw (lt98 (by have h9 := hv0; omega)) (hk_Q hv0) rfl (by decide +kernel) 1 (by decide) (ref := "RankBench$Question") rfl (by decide +kernel) rfl dX6_isAmongFirst_8 ?_
        refine lv_iload_n X.1 X.2.1 dX6_isAmongFirst_11 rfl (lv_at hl 3 rfl) ?_
        refine aR X hw (lt98 (by have h9 := (show 26 ≤ (v0 + 16) ∧ (v0 + 16) < 34 by have h9 := hv0; omega); omega)) (hk_Rs (show 26 ≤ (v0 + 16) ∧ (v0 + 16) < 34 by have h9 := hv0; omega)) (vp_in_iff.mpr ⟨by omega, by omega⟩) dX6_isAmongFirst_12 ?_
        have cl5 : v3.toNatClampNeg < 4 := clampN (by omega) (by omega)
        have hr4 : 34 ≤ (34 + 4 * ((v0 + 16) - 26) + v3.toNatClampNeg) ∧ (34 + 4 * ((v0 + 16) - 26) + v3.toNatClampNeg) < 66 := by have h9 := (show 26 ≤ (v0 + 16) ∧ (v0 + 16) < 34 by have h9 := hv0; omega); omega
        refine lv_astore (lv' := [(4, .ref (G.2.2 (34 + 4 * ((v0 + 16) - 26) + v3.toNatClampNeg))), (0, .ref (G.2.2 v0)), (1, .int v1), (2, .int v2), (3, .int v3)]) X.1 X.2.1 dX6_isAmongFirst_13 hl (by decide) rfl (fun ls hl => ?_)
        refine lv_aload X.1 X.2.1 dX6_isAmongFirst_15 (lv_at hl 0 rfl) ?_
        refine lv_ifnull X.1 X.2.1 dX6_isAmongFirst_17 ?_
        refine lv_aload X.1 X.2.1 dX6_isAmongFirst_20 (lv_at hl 0 rfl) ?_
        refine lv_iload_n X.1 X.2.1 dX6_isAmongFirst_22 rfl (lv_at hl 2 rfl) ?_
        refine lv_iload_n X.1 X.2.1 dX6_isAmongFirst_23 rfl (lv_at hl 3 rfl) ?_
        refine cVI [.int v1, .int v2] [] X hw (c_X7_hasAmongFirst l G A M (34 + 4 * ((v0 + 16) - 26) + v3.toNatClampNeg) hr4 v1 v2) (cwV 2 X.2.2.2.2 gX6_isAmongFirst_X7_hasAmongFirst rfl rfl rfl (by decide +kernel) ⟨Nat.le_of_ble_eq_true rfl, Nat.le_of_ble_eq_true rfl⟩) (hw.recv (lt98 (by have h9 := hr4; omega)) (hk_Row hr4) rfl) rfl rfl hl.1 (Nat.le_of_ble_eq_true rfl) dX6_isAmongFirst_24 ?_
        refine tni (fun r6 er6 => ?_)
        refine bz_eq (tgt := 32) X dX6_isAmongFirst_27 (by decide) (fun c7 => ?_) (fun c7 => ?_)
        · skip
          have t8 : r6.toInt = 0 := i_eq c7
          refine lv_iinc (v := (v3 + 1)) (lv' := [(3, .int (v3 + 1)), (4, .ref (G.2.2 (34 + 4 * ((v0 + 16) - 26) + v3.toNatClampNeg))), (0, .ref (G.2.2 v0)), (1, .int v1), (2, .int v2)]) X.1 X.2.1 dX6_isAmongFirst_32 hl (k := 4) rfl rfl (by decide) rfl (fun ls hl => ?_)
          refine lv_goto (tgt := 2) X.1 X.2.1 dX6_isAmongFirst_35 (by decide) ?_
          have q9 := inc_sp v3
          exact ih1 v0 v1 v2 (v3 + 1) hv0 (by omega) (by omega)  ls (lv_sub hl [2, 3, 4, 0] rfl)
        · skip
          have t10 : ¬ r6.toInt = 0 := i_ne c7
          refine lv_iconst (v := 1) X.1 X.2.1 dX6_isAmongFirst_30 (by decide) ?_
          exact rZ X hr hlk rfl dX6_isAmongFirst_31
  exact L1 5 i0 a1 a2 0 hi0 (by decide) (by first | omega | decide)  ls (lv_sub hl [1, 2, 3, 0] rfl)

def f_X6_pooled_5 : Nat → Mem → Nat → Int32 → Int32 → Int32 → Int32 → Int32
  | 0, M, _, _, _, _, _ => 0
  | n1 + 1, M, v0, v1, v2, v3, v4 => if (24 : Int32) ≤ v4 then (-1) else (if (M.1 (v0 + 8) v4.toNatClampNeg) = (-1) then (bnd (f_X6_isAmongFirst M v0 v1 v4) (fun r8 => if r8 = 0 then (f_X6_pooled_5 n1 M v0 v1 v2 v3 (v4 + 1)) else (if v3 = v2 then v4 else (f_X6_pooled_5 n1 M v0 v1 v2 (v3 + 1) (v4 + 1))))) else (f_X6_pooled_5 n1 M v0 v1 v2 v3 (v4 + 1)))
def f_X6_pooled (M : Mem) (i0 : Nat) (a1 : Int32) (a2 : Int32) : Int32 := f_X6_pooled_5 25 M i0 a1 a2 0 0
set_option maxRecDepth 100000 in
set_option maxHeartbeats 4000000 in
theorem c_X6_pooled (l : Launch) (G : En) (A : Nat → Prop) (M : Mem) (i0 : Nat) (hi0 : 10 ≤ i0 ∧ i0 < 18) (a1 : Int32) (a2 : Int32) : RdI true l yX6_pooled wsX6_pooled ({ frames := 3, cells := 0, slots := 0, locals := 69 }) G A M [.ref (G.2.2 i0), .int a1, .int a2] (f_X6_pooled M i0 a1 a2) := by
  refine RdI.of (cc := cX6_pooled) (maxL := 5) (ret := (some .int)) (own := RX6) (by decide) rfl rfl (Nat.le_of_ble_eq_true rfl) ?_
  intro p e s m below meth c X hw hr hlk ls hl
  have hl : lv_has ls 5 [(0, .ref (G.2.2 i0)), (1, .int a1), (2, .int a2)] := hl
  unfold f_X6_pooled
  refine lv_iconst (v := 0) X.1 X.2.1 dX6_pooled_0 (by decide) ?_
  refine lv_istore_n (lv' := [(3, .int 0), (0, .ref (G.2.2 i0)), (1, .int a1), (2, .int a2)]) X.1 X.2.1 dX6_pooled_1 rfl hl (by decide) rfl (fun ls hl => ?_)
  refine lv_iconst (v := 0) X.1 X.2.1 dX6_pooled_2 (by decide) ?_
  refine lv_istore (lv' := [(4, .int 0), (3, .int 0), (0, .ref (G.2.2 i0)), (1, .int a1), (2, .int a2)]) X.1 X.2.1 dX6_pooled_3 hl (by decide) rfl (fun ls hl => ?_)
  have L1 : ∀ (n1 : Nat) (v0 : Nat) (v1 : Int32) (v2 : Int32) (v3 : Int32) (v4 : Int32) (hv0 : 10 ≤ v0 ∧ v0 < 18) (hm1 : (24 - v4.toInt : Int).toNat < n1) (hi1_0 : 0 ≤ v4.toInt), ∀ ls : Array Slot, lv_has ls 5 [(0, .ref (G.2.2 v0)), (1, .int v1), (2, .int v2), (3, .int v3), (4, .int v4)] → W p l e ({ frames := 3, cells := 0, slots := 0, locals := 69 } : Room) s m ([.ref (G.2.2 i0), .int a1, .int a2] : List Value).toArray below meth c s.heap [] 0 0 (TSi below ([.ref (G.2.2 i0), .int a1, .int a2] : List Value).toArray s (f_X6_pooled_5 n1 M v0 v1 v2 v3 v4)) (F0 m 5 ls []) := by
    intro n1
    induction n1 with
    | zero => intro v0 v1 v2 v3 v4 hv0 hm1 hi1_0; exact absurd hm1 (by omega)
    | succ n1 ih1 =>
      intro v0 v1 v2 v3 v4 hv0 hm1 hi1_0 ls hl
      rw [f_X6_pooled_5]
      refine lv_iload X.1 X.2.1 dX6_pooled_5 (lv_at hl 4 rfl) ?_
      refine lv_bipush (v := 24) X.1 X.2.1 dX6_pooled_7 (by decide) ?_
      refine bi_ge (tgt := 50) X dX6_pooled_9 (by decide) (fun c1 => ?_) (fun c1 => ?_)
      · skip
        have t2 : 24 ≤ v4.toInt := i_le c1
        refine lv_iconst (v := (-1)) X.1 X.2.1 dX6_pooled_50 (by decide) ?_
        exact rI X hr hlk dX6_pooled_51
      · skip
        have t3 : v4.toInt < 24 := i_nle c1
        refine lv_aload_n X.1 X.2.1 dX6_pooled_12 rfl (lv_at hl 0 rfl) ?_
        refine gF X hw (lt98 (by have h9 := hv0; omega)) (hk_Q hv0) rfl (by decide +kernel) 0 (by decide) (ref := "RankBench$Question") rfl (by decide +kernel) rfl dX6_pooled_13 ?_
        refine lv_iload X.1 X.2.1 dX6_pooled_16 (lv_at hl 4 rfl) ?_
        refine aI X hw (lt98 (by have h9 := (show 18 ≤ (v0 + 8) ∧ (v0 + 8) < 26 by have h9 := hv0; omega); omega)) (hk_Gr (show 18 ≤ (v0 + 8) ∧ (v0 + 8) < 26 by have h9 := hv0; omega)) (vp_in_iff.mpr ⟨by omega, by omega⟩) dX6_pooled_18 ?_
        refine lv_iconst (v := (-1)) X.1 X.2.1 dX6_pooled_19 (by decide) ?_
        refine bi_ne (tgt := 44) X dX6_pooled_20 (by decide) (fun c4 => ?_) (fun c4 => ?_)
        · skip
          have t5 : ¬ (M.1 (v0 + 8) v4.toNatClampNeg).toInt = -1 := i_ne c4
          refine lv_iinc (v := (v4 + 1)) (lv' := [(4, .int (v4 + 1)), (0, .ref (G.2.2 v0)), (1, .int v1), (2, .int v2), (3, .int v3)]) X.1 X.2.1 dX6_pooled_44 hl (k := 4) rfl rfl (by decide) rfl (fun ls hl => ?_)
          refine lv_goto (tgt := 5) X.1 X.2.1 dX6_pooled_47 (by decide) ?_
          have q6 := inc_sp v4
          exact ih1 v0 v1 v2 v3 (v4 + 1) hv0 (by omega) (by omega)  ls (lv_sub hl [1, 2, 3, 4, 0] rfl)
        · skip
          have t7 : (M.1 (v0 + 8) v4.toNatClampNeg).toInt = -1 := i_eq c4
          refine lv_aload_n X.1 X.2.1 dX6_pooled_23 rfl (lv_at hl 0 rfl) ?_
          refine lv_iload_n X.1 X.2.1 dX6_pooled_24 rfl (lv_at hl 1 rfl) ?_
          refine lv_iload X.1 X.2.1 dX6_pooled_25 (lv_at hl 4 rfl) ?_
          refine cVI [.int v1, .int v4] [] X hw (c_X6_isAmongFirst l G A M v0 hv0 v1 v4) (cwV 2 X.2.2.2.2 gX6_pooled_X6_isAmongFirst rfl rfl rfl (by decide +kernel) ⟨Nat.le_of_ble_eq_true rfl, Nat.le_of_ble_eq_true rfl⟩) (hw.recv (lt98 (by have h9 := hv0; omega)) (hk_Q hv0) rfl) rfl rfl hl.1 (Nat.le_of_ble_eq_true rfl) dX6_pooled_27 ?_
          refine tni (fun r8 er8 => ?_)
          refine bz_eq (tgt := 44) X dX6_pooled_30 (by decide) (fun c9 => ?_) (fun c9 => ?_)
          · skip
            have t10 : r8.toInt = 0 := i_eq c9
            refine lv_iinc (v := (v4 + 1)) (lv' := [(4, .int (v4 + 1)), (0, .ref (G.2.2 v0)), (1, .int v1), (2, .int v2), (3, .int v3)]) X.1 X.2.1 dX6_pooled_44 hl (k := 4) rfl rfl (by decide) rfl (fun ls hl => ?_)
            refine lv_goto (tgt := 5) X.1 X.2.1 dX6_pooled_47 (by decide) ?_
            have q11 := inc_sp v4
            exact ih1 v0 v1 v2 v3 (v4 + 1) hv0 (by omega) (by omega)  ls (lv_sub hl [1, 2, 3, 4, 0] rfl)
          · skip
            have t12 : ¬ r8.toInt = 0 := i_ne c9
            refine lv_iload_n X.1 X.2.1 dX6_pooled_33 rfl (lv_at hl 3 rfl) ?_
            refine lv_iload_n X.1 X.2.1 dX6_pooled_34 rfl (lv_at hl 2 rfl) ?_
            refine bi_ne (tgt := 41) X dX6_pooled_35 (by decide) (fun c13 => ?_) (fun c13 => ?_)
            · skip
              have t14 : ¬ v3.toInt = v2.toInt := i_ne c13
              refine lv_iinc (v := (v3 + 1)) (lv' := [(3, .int (v3 + 1)), (0, .ref (G.2.2 v0)), (1, .int v1), (2, .int v2), (4, .int v4)]) X.1 X.2.1 dX6_pooled_41 hl (k := 3) rfl rfl (by decide) rfl (fun ls hl => ?_)
              refine lv_iinc (v := (v4 + 1)) (lv' := [(4, .int (v4 + 1)), (3, .int (v3 + 1)), (0, .ref (G.2.2 v0)), (1, .int v1), (2, .int v2)]) X.1 X.2.1 dX6_pooled_44 hl (k := 4) rfl rfl (by decide) rfl (fun ls hl => ?_)
              refine lv_goto (tgt := 5) X.1 X.2.1 dX6_pooled_47 (by decide) ?_
              have q15 := inc_sp v3
              have q16 := inc_sp v4
              exact ih1 v0 v1 v2 (v3 + 1) (v4 + 1) hv0 (by omega) (by omega)  ls (lv_sub hl [2, 3, 4, 1, 0] rfl)
            · skip
              have t17 : v3.toInt = v2.toInt := i_eq c13
              refine lv_iload X.1 X.2.1 dX6_pooled_38 (lv_at hl 4 rfl) ?_
              exact rI X hr hlk dX6_pooled_40
  exact L1 25 i0 a1 a2 0 0 hi0 (by decide) (by first | omega | decide)  ls (lv_sub hl [2, 3, 4, 1, 0] rfl)
