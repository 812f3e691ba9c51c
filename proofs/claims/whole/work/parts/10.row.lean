/-! 10.row -/
theorem nar01 {v : Int32} (h : v = 0 ∨ v = 1) : narrow .boolean (.int v) = .int v := by rcases h with h | h <;> subst h <;> rfl
theorem fit01 {v : Int32} (h : v = 0 ∨ v = 1) : fits .boolean (.int v) = true := by rcases h with h | h <;> subst h <;> rfl
def f_X7_size (M : Mem) (i0 : Nat) : Int32 := (M.1 i0 1)
set_option maxRecDepth 100000 in
set_option maxHeartbeats 4000000 in
theorem c_X7_size (l : Launch) (G : En) (A : Nat → Prop) (M : Mem) (i0 : Nat) (hi0 : 34 ≤ i0 ∧ i0 < 66) : RdI true l yX7_size wsX7_size ({ frames := 0, cells := 0, slots := 0, locals := 0 }) G A M [.ref (G.2.2 i0)] (f_X7_size M i0) := by
  refine RdI.of (cc := cX7_size) (maxL := 1) (ret := (some .int)) (own := RX7) (by decide) rfl rfl (Nat.le_of_ble_eq_true rfl) ?_
  intro p e s m below meth c X hw hr hlk ls hl
  have hl : lv_has ls 1 [(0, .ref (G.2.2 i0))] := hl
  unfold f_X7_size
  refine lv_aload_n X.1 X.2.1 dX7_size_0 rfl (lv_at hl 0 rfl) ?_
  refine gF X hw (lt98 (by have h9 := hi0; omega)) (hk_Row hi0) rfl (by decide +kernel) 1 (by decide) (ref := "RankBench$Row") rfl (by decide +kernel) rfl dX7_size_1 ?_
  exact rI X hr hlk dX7_size_4

def f_X7_isTold (M : Mem) (i0 : Nat) : Int32 := (M.1 i0 2)
set_option maxRecDepth 100000 in
set_option maxHeartbeats 4000000 in
theorem c_X7_isTold (l : Launch) (G : En) (A : Nat → Prop) (M : Mem) (i0 : Nat) (hi0 : 34 ≤ i0 ∧ i0 < 66) : RdI true l yX7_isTold wsX7_isTold ({ frames := 0, cells := 0, slots := 0, locals := 0 }) G A M [.ref (G.2.2 i0)] (f_X7_isTold M i0) := by
  refine RdI.of (cc := cX7_isTold) (maxL := 1) (ret := (some .boolean)) (own := RX7) (by decide) rfl rfl (Nat.le_of_ble_eq_true rfl) ?_
  intro p e s m below meth c X hw hr hlk ls hl
  have hl : lv_has ls 1 [(0, .ref (G.2.2 i0))] := hl
  unfold f_X7_isTold
  refine lv_aload_n X.1 X.2.1 dX7_isTold_0 rfl (lv_at hl 0 rfl) ?_
  refine gF X hw (lt98 (by have h9 := hi0; omega)) (hk_Row hi0) rfl (by decide +kernel) 2 (by decide) (ref := "RankBench$Row") rfl (by decide +kernel) rfl dX7_isTold_1 ?_
  exact rZ X hr hlk (nar01 (hw.2.2.2.2 i0 hi0.1 hi0.2).1) dX7_isTold_4

def f_X7_documentAt (M : Mem) (i0 : Nat) (a1 : Int32) : Int32 := if a1 < 1 then (-1) else (if (M.1 i0 1) < a1 then (-1) else (if (16 : Int32) < a1 then (-1) else (M.1 (i0 + 32) (a1 - 1).toNatClampNeg)))
set_option maxRecDepth 100000 in
set_option maxHeartbeats 4000000 in
theorem c_X7_documentAt (l : Launch) (G : En) (A : Nat → Prop) (M : Mem) (i0 : Nat) (hi0 : 34 ≤ i0 ∧ i0 < 66) (a1 : Int32) : RdI true l yX7_documentAt wsX7_documentAt ({ frames := 0, cells := 0, slots := 0, locals := 0 }) G A M [.ref (G.2.2 i0), .int a1] (f_X7_documentAt M i0 a1) := by
  refine RdI.of (cc := cX7_documentAt) (maxL := 2) (ret := (some .int)) (own := RX7) (by decide) rfl rfl (Nat.le_of_ble_eq_true rfl) ?_
  intro p e s m below meth c X hw hr hlk ls hl
  have hl : lv_has ls 2 [(0, .ref (G.2.2 i0)), (1, .int a1)] := hl
  unfold f_X7_documentAt
  refine lv_iload_n X.1 X.2.1 dX7_documentAt_0 rfl (lv_at hl 1 rfl) ?_
  refine lv_iconst (v := 1) X.1 X.2.1 dX7_documentAt_1 (by decide) ?_
  refine bi_lt (tgt := 30) X dX7_documentAt_2 (by decide) (fun c1 => ?_) (fun c1 => ?_)
  · skip
    have t2 : a1.toInt < 1 := i_lt c1
    refine lv_iconst (v := (-1)) X.1 X.2.1 dX7_documentAt_30 (by decide) ?_
    exact rI X hr hlk dX7_documentAt_31
  · skip
    have t3 : 1 ≤ a1.toInt := i_nlt c1
    refine lv_iload_n X.1 X.2.1 dX7_documentAt_5 rfl (lv_at hl 1 rfl) ?_
    refine lv_aload_n X.1 X.2.1 dX7_documentAt_6 rfl (lv_at hl 0 rfl) ?_
    refine gF X hw (lt98 (by have h9 := hi0; omega)) (hk_Row hi0) rfl (by decide +kernel) 1 (by decide) (ref := "RankBench$Row") rfl (by decide +kernel) rfl dX7_documentAt_7 ?_
    refine bi_gt (tgt := 30) X dX7_documentAt_10 (by decide) (fun c4 => ?_) (fun c4 => ?_)
    · skip
      have t5 : (M.1 i0 1).toInt < a1.toInt := i_lt c4
      refine lv_iconst (v := (-1)) X.1 X.2.1 dX7_documentAt_30 (by decide) ?_
      exact rI X hr hlk dX7_documentAt_31
    · skip
      have t6 : a1.toInt ≤ (M.1 i0 1).toInt := i_nlt c4
      refine lv_iload_n X.1 X.2.1 dX7_documentAt_13 rfl (lv_at hl 1 rfl) ?_
      refine lv_bipush (v := 16) X.1 X.2.1 dX7_documentAt_14 (by decide) ?_
      refine bi_gt (tgt := 30) X dX7_documentAt_16 (by decide) (fun c7 => ?_) (fun c7 => ?_)
      · skip
        have t8 : 16 < a1.toInt := i_lt c7
        refine lv_iconst (v := (-1)) X.1 X.2.1 dX7_documentAt_30 (by decide) ?_
        exact rI X hr hlk dX7_documentAt_31
      · skip
        have t9 : a1.toInt ≤ 16 := i_nlt c7
        refine lv_aload_n X.1 X.2.1 dX7_documentAt_19 rfl (lv_at hl 0 rfl) ?_
        refine gF X hw (lt98 (by have h9 := hi0; omega)) (hk_Row hi0) rfl (by decide +kernel) 0 (by decide) (ref := "RankBench$Row") rfl (by decide +kernel) rfl dX7_documentAt_20 ?_
        refine lv_iload_n X.1 X.2.1 dX7_documentAt_23 rfl (lv_at hl 1 rfl) ?_
        refine lv_iconst (v := 1) X.1 X.2.1 dX7_documentAt_24 (by decide) ?_
        refine lv_isub X.1 X.2.1 dX7_documentAt_25 ?_
        have q10 := dec_sp a1
        refine aI X hw (lt98 (by have h9 := (show 66 ≤ (i0 + 32) ∧ (i0 + 32) < 98 by have h9 := hi0; omega); omega)) (hk_Dc (show 66 ≤ (i0 + 32) ∧ (i0 + 32) < 98 by have h9 := hi0; omega)) (vp_in_iff.mpr ⟨by omega, by omega⟩) dX7_documentAt_26 ?_
        refine lv_goto (tgt := 31) X.1 X.2.1 dX7_documentAt_27 (by decide) ?_
        exact rI X hr hlk dX7_documentAt_31

def f_X7_rankOf_2 : Nat → Mem → Nat → Int32 → Int32 → Int32
  | 0, M, _, _, _ => 0
  | n1 + 1, M, v0, v1, v2 => if (M.1 v0 1) ≤ v2 then 0 else (if (16 : Int32) ≤ v2 then 0 else (if (M.1 (v0 + 32) v2.toNatClampNeg) = v1 then (v2 + 1) else (f_X7_rankOf_2 n1 M v0 v1 (v2 + 1))))
def f_X7_rankOf (M : Mem) (i0 : Nat) (a1 : Int32) : Int32 := f_X7_rankOf_2 17 M i0 a1 0
set_option maxRecDepth 100000 in
set_option maxHeartbeats 4000000 in
theorem c_X7_rankOf (l : Launch) (G : En) (A : Nat → Prop) (M : Mem) (i0 : Nat) (hi0 : 34 ≤ i0 ∧ i0 < 66) (a1 : Int32) : RdI true l yX7_rankOf wsX7_rankOf ({ frames := 0, cells := 0, slots := 0, locals := 0 }) G A M [.ref (G.2.2 i0), .int a1] (f_X7_rankOf M i0 a1) := by
  refine RdI.of (cc := cX7_rankOf) (maxL := 3) (ret := (some .int)) (own := RX7) (by decide) rfl rfl (Nat.le_of_ble_eq_true rfl) ?_
  intro p e s m below meth c X hw hr hlk ls hl
  have hl : lv_has ls 3 [(0, .ref (G.2.2 i0)), (1, .int a1)] := hl
  unfold f_X7_rankOf
  refine lv_iconst (v := 0) X.1 X.2.1 dX7_rankOf_0 (by decide) ?_
  refine lv_istore_n (lv' := [(2, .int 0), (0, .ref (G.2.2 i0)), (1, .int a1)]) X.1 X.2.1 dX7_rankOf_1 rfl hl (by decide) rfl (fun ls hl => ?_)
  have L1 : ∀ (n1 : Nat) (v0 : Nat) (v1 : Int32) (v2 : Int32) (hv0 : 34 ≤ v0 ∧ v0 < 66) (hm1 : (16 - v2.toInt : Int).toNat < n1) (hi1_0 : 0 ≤ v2.toInt), ∀ ls : Array Slot, lv_has ls 3 [(0, .ref (G.2.2 v0)), (1, .int v1), (2, .int v2)] → W p l e ({ frames := 0, cells := 0, slots := 0, locals := 0 } : Room) s m ([.ref (G.2.2 i0), .int a1] : List Value).toArray below meth c s.heap [] 0 0 (TSi below ([.ref (G.2.2 i0), .int a1] : List Value).toArray s (f_X7_rankOf_2 n1 M v0 v1 v2)) (F0 m 2 ls []) := by
    intro n1
    induction n1 with
    | zero => intro v0 v1 v2 hv0 hm1 hi1_0; exact absurd hm1 (by omega)
    | succ n1 ih1 =>
      intro v0 v1 v2 hv0 hm1 hi1_0 ls hl
      rw [f_X7_rankOf_2]
      refine lv_iload_n X.1 X.2.1 dX7_rankOf_2 rfl (lv_at hl 2 rfl) ?_
      refine lv_aload_n X.1 X.2.1 dX7_rankOf_3 rfl (lv_at hl 0 rfl) ?_
      refine gF X hw (lt98 (by have h9 := hv0; omega)) (hk_Row hv0) rfl (by decide +kernel) 1 (by decide) (ref := "RankBench$Row") rfl (by decide +kernel) rfl dX7_rankOf_4 ?_
      refine bi_ge (tgt := 36) X dX7_rankOf_7 (by decide) (fun c1 => ?_) (fun c1 => ?_)
      · skip
        have t2 : (M.1 v0 1).toInt ≤ v2.toInt := i_le c1
        refine lv_iconst (v := 0) X.1 X.2.1 dX7_rankOf_36 (by decide) ?_
        exact rI X hr hlk dX7_rankOf_37
      · skip
        have t3 : v2.toInt < (M.1 v0 1).toInt := i_nle c1
        refine lv_iload_n X.1 X.2.1 dX7_rankOf_10 rfl (lv_at hl 2 rfl) ?_
        refine lv_bipush (v := 16) X.1 X.2.1 dX7_rankOf_11 (by decide) ?_
        refine bi_ge (tgt := 36) X dX7_rankOf_13 (by decide) (fun c4 => ?_) (fun c4 => ?_)
        · skip
          have t5 : 16 ≤ v2.toInt := i_le c4
          refine lv_iconst (v := 0) X.1 X.2.1 dX7_rankOf_36 (by decide) ?_
          exact rI X hr hlk dX7_rankOf_37
        · skip
          have t6 : v2.toInt < 16 := i_nle c4
          refine lv_aload_n X.1 X.2.1 dX7_rankOf_16 rfl (lv_at hl 0 rfl) ?_
          refine gF X hw (lt98 (by have h9 := hv0; omega)) (hk_Row hv0) rfl (by decide +kernel) 0 (by decide) (ref := "RankBench$Row") rfl (by decide +kernel) rfl dX7_rankOf_17 ?_
          refine lv_iload_n X.1 X.2.1 dX7_rankOf_20 rfl (lv_at hl 2 rfl) ?_
          refine aI X hw (lt98 (by have h9 := (show 66 ≤ (v0 + 32) ∧ (v0 + 32) < 98 by have h9 := hv0; omega); omega)) (hk_Dc (show 66 ≤ (v0 + 32) ∧ (v0 + 32) < 98 by have h9 := hv0; omega)) (vp_in_iff.mpr ⟨by omega, by omega⟩) dX7_rankOf_21 ?_
          refine lv_iload_n X.1 X.2.1 dX7_rankOf_22 rfl (lv_at hl 1 rfl) ?_
          refine bi_ne (tgt := 30) X dX7_rankOf_23 (by decide) (fun c7 => ?_) (fun c7 => ?_)
          · skip
            have t8 : ¬ (M.1 (v0 + 32) v2.toNatClampNeg).toInt = v1.toInt := i_ne c7
            refine lv_iinc (v := (v2 + 1)) (lv' := [(2, .int (v2 + 1)), (0, .ref (G.2.2 v0)), (1, .int v1)]) X.1 X.2.1 dX7_rankOf_30 hl (k := 2) rfl rfl (by decide) rfl (fun ls hl => ?_)
            refine lv_goto (tgt := 2) X.1 X.2.1 dX7_rankOf_33 (by decide) ?_
            have q9 := inc_sp v2
            exact ih1 v0 v1 (v2 + 1) hv0 (by omega) (by omega)  ls (lv_sub hl [1, 2, 0] rfl)
          · skip
            have t10 : (M.1 (v0 + 32) v2.toNatClampNeg).toInt = v1.toInt := i_eq c7
            refine lv_iload_n X.1 X.2.1 dX7_rankOf_26 rfl (lv_at hl 2 rfl) ?_
            refine lv_iconst (v := 1) X.1 X.2.1 dX7_rankOf_27 (by decide) ?_
            refine lv_iadd X.1 X.2.1 dX7_rankOf_28 ?_
            exact rI X hr hlk dX7_rankOf_29
  exact L1 17 i0 a1 0 hi0 (by decide) (by first | omega | decide)  ls (lv_sub hl [1, 2, 0] rfl)

def f_X7_hasAmongFirst (M : Mem) (i0 : Nat) (a1 : Int32) (a2 : Int32) : Int32 := bnd (f_X7_rankOf M i0 a2) (fun r1 => if r1 ≤ 0 then 0 else (if a1 < r1 then 0 else 1))
set_option maxRecDepth 100000 in
set_option maxHeartbeats 4000000 in
theorem c_X7_hasAmongFirst (l : Launch) (G : En) (A : Nat → Prop) (M : Mem) (i0 : Nat) (hi0 : 34 ≤ i0 ∧ i0 < 66) (a1 : Int32) (a2 : Int32) : RdI true l yX7_hasAmongFirst wsX7_hasAmongFirst ({ frames := 1, cells := 0, slots := 0, locals := 22 }) G A M [.ref (G.2.2 i0), .int a1, .int a2] (f_X7_hasAmongFirst M i0 a1 a2) := by
  refine RdI.of (cc := cX7_hasAmongFirst) (maxL := 4) (ret := (some .boolean)) (own := RX7) (by decide) rfl rfl (Nat.le_of_ble_eq_true rfl) ?_
  intro p e s m below meth c X hw hr hlk ls hl
  have hl : lv_has ls 4 [(0, .ref (G.2.2 i0)), (1, .int a1), (2, .int a2)] := hl
  unfold f_X7_hasAmongFirst
  refine lv_aload_n X.1 X.2.1 dX7_hasAmongFirst_0 rfl (lv_at hl 0 rfl) ?_
  refine lv_iload_n X.1 X.2.1 dX7_hasAmongFirst_1 rfl (lv_at hl 2 rfl) ?_
  refine cVI [.int a2] [] X hw (c_X7_rankOf l G A M i0 hi0 a2) (cwV 1 X.2.2.2.2 gX7_hasAmongFirst_X7_rankOf rfl rfl rfl (by decide +kernel) ⟨Nat.le_of_ble_eq_true rfl, Nat.le_of_ble_eq_true rfl⟩) (hw.recv (lt98 (by have h9 := hi0; omega)) (hk_Row hi0) rfl) rfl rfl hl.1 (Nat.le_of_ble_eq_true rfl) dX7_hasAmongFirst_2 ?_
  refine tni (fun r1 er1 => ?_)
  refine lv_istore_n (lv' := [(3, .int r1), (0, .ref (G.2.2 i0)), (1, .int a1), (2, .int a2)]) X.1 X.2.1 dX7_hasAmongFirst_5 rfl hl (by decide) rfl (fun ls hl => ?_)
  refine lv_iload_n X.1 X.2.1 dX7_hasAmongFirst_6 rfl (lv_at hl 0 rfl) ?_
  refine bz_le (tgt := 19) X dX7_hasAmongFirst_7 (by decide) (fun c2 => ?_) (fun c2 => ?_)
  · skip
    have t3 : r1.toInt ≤ 0 := i_le c2
    refine lv_iconst (v := 0) X.1 X.2.1 dX7_hasAmongFirst_19 (by decide) ?_
    exact rZ X hr hlk rfl dX7_hasAmongFirst_20
  · skip
    have t4 : 0 < r1.toInt := i_nle c2
    refine lv_iload_n X.1 X.2.1 dX7_hasAmongFirst_10 rfl (lv_at hl 0 rfl) ?_
    refine lv_iload_n X.1 X.2.1 dX7_hasAmongFirst_11 rfl (lv_at hl 2 rfl) ?_
    refine bi_gt (tgt := 19) X dX7_hasAmongFirst_12 (by decide) (fun c5 => ?_) (fun c5 => ?_)
    · skip
      have t6 : a1.toInt < r1.toInt := i_lt c5
      refine lv_iconst (v := 0) X.1 X.2.1 dX7_hasAmongFirst_19 (by decide) ?_
      exact rZ X hr hlk rfl dX7_hasAmongFirst_20
    · skip
      have t7 : r1.toInt ≤ a1.toInt := i_nlt c5
      refine lv_iconst (v := 1) X.1 X.2.1 dX7_hasAmongFirst_15 (by decide) ?_
      refine lv_goto (tgt := 20) X.1 X.2.1 dX7_hasAmongFirst_16 (by decide) ?_
      exact rZ X hr hlk rfl dX7_hasAmongFirst_20

def f_X7_append (M : Mem) (i0 : Nat) (a1 : Int32) : Mem := if (M.1 i0 1) < 0 then M else (if (16 : Int32) ≤ (M.1 i0 1) then M else (bnd (ui M (i0 + 32) (M.1 i0 1).toNatClampNeg a1) (fun M7 => bnd ((M7.1 i0 1) + 1) (fun x8 => bnd (ui M7 i0 1 x8) (fun M9 => bnd (ui M9 i0 2 1) (fun M10 => M10))))))
set_option maxRecDepth 100000 in
set_option maxHeartbeats 4000000 in
theorem c_X7_append (l : Launch) (G : En) (A : Nat → Prop) (M : Mem) (i0 : Nat) (hi0 : 34 ≤ i0 ∧ i0 < 66) (a1 : Int32) : WrV true l yX7_append wsX7_append ({ frames := 0, cells := 0, slots := 0, locals := 0 }) G A M [.ref (G.2.2 i0), .int a1] (f_X7_append M i0 a1) := by
  refine WrV.of (cc := cX7_append) (maxL := 2) (ret := none) (own := RX7) (by decide) rfl rfl (Nat.le_of_ble_eq_true rfl) ?_
  intro p e s m below meth c X hw hr hlk ls hl hS
  have hl : lv_has ls 2 [(0, .ref (G.2.2 i0)), (1, .int a1)] := hl
  unfold f_X7_append
  refine lv_aload_n X.1 X.2.1 dX7_append_0 rfl (lv_at hl 0 rfl) ?_
  refine gF X hw (lt98 (by have h9 := hi0; omega)) (hk_Row hi0) rfl (by decide +kernel) 1 (by decide) (ref := "RankBench$Row") rfl (by decide +kernel) rfl dX7_append_1 ?_
  refine bz_lt (tgt := 41) X dX7_append_4 (by decide) (fun c1 => ?_) (fun c1 => ?_)
  · skip
    have t2 : (M.1 i0 1).toInt < 0 := i_lt c1
    exact rV X hr hlk hw hS dX7_append_41
  · skip
    have t3 : 0 ≤ (M.1 i0 1).toInt := i_nlt c1
    refine lv_aload_n X.1 X.2.1 dX7_append_7 rfl (lv_at hl 0 rfl) ?_
    refine gF X hw (lt98 (by have h9 := hi0; omega)) (hk_Row hi0) rfl (by decide +kernel) 1 (by decide) (ref := "RankBench$Row") rfl (by decide +kernel) rfl dX7_append_8 ?_
    refine lv_bipush (v := 16) X.1 X.2.1 dX7_append_11 (by decide) ?_
    refine bi_ge (tgt := 41) X dX7_append_13 (by decide) (fun c4 => ?_) (fun c4 => ?_)
    · skip
      have t5 : 16 ≤ (M.1 i0 1).toInt := i_le c4
      exact rV X hr hlk hw hS dX7_append_41
    · skip
      have t6 : (M.1 i0 1).toInt < 16 := i_nle c4
      refine lv_aload_n X.1 X.2.1 dX7_append_16 rfl (lv_at hl 0 rfl) ?_
      refine gF X hw (lt98 (by have h9 := hi0; omega)) (hk_Row hi0) rfl (by decide +kernel) 0 (by decide) (ref := "RankBench$Row") rfl (by decide +kernel) rfl dX7_append_17 ?_
      refine lv_aload_n X.1 X.2.1 dX7_append_20 rfl (lv_at hl 0 rfl) ?_
      refine gF X hw (lt98 (by have h9 := hi0; omega)) (hk_Row hi0) rfl (by decide +kernel) 1 (by decide) (ref := "RankBench$Row") rfl (by decide +kernel) rfl dX7_append_21 ?_
      refine lv_iload_n X.1 X.2.1 dX7_append_24 rfl (lv_at hl 1 rfl) ?_
      refine sI X hw hS (ui M (i0 + 32) (M.1 i0 1).toNatClampNeg a1) (lt98 (by have h9 := (show 66 ≤ (i0 + 32) ∧ (i0 + 32) < 98 by have h9 := hi0; omega); omega)) (hk_Dc (show 66 ≤ (i0 + 32) ∧ (i0 + 32) < 98 by have h9 := hi0; omega)) (vp_in_iff.mpr ⟨by omega, by omega⟩) (by rw [hk_Dc (show 66 ≤ (i0 + 32) ∧ (i0 + 32) < 98 by have h9 := hi0; omega), ui_same]) (fun j hj => ui_ne hj) (fun j hj => rfl) (okK_ui hw.2.2.2.2 (Or.inr (Or.inl (by have h9 := (show 66 ≤ (i0 + 32) ∧ (i0 + 32) < 98 by have h9 := hi0; omega); omega)))) dX7_append_25 (fun H locs hw hS => ?_)
      refine tpb (fun M7 eM7 => ?_)
      rw [← eM7] at hw
      have h26 := congrArg Int32.toInt (show M7.1 i0 1 = M.1 i0 1 by rw [eM7, ui_ne (by omega)])
      refine lv_aload_n X.1 X.2.1 dX7_append_26 rfl (lv_at hl 0 rfl) ?_
      refine lv_dup X.1 X.2.1 dX7_append_27 rfl ?_
      refine gF X hw (lt98 (by have h9 := hi0; omega)) (hk_Row hi0) rfl (by decide +kernel) 1 (by decide) (ref := "RankBench$Row") rfl (by decide +kernel) rfl dX7_append_28 ?_
      refine lv_iconst (v := 1) X.1 X.2.1 dX7_append_31 (by decide) ?_
      refine lv_iadd X.1 X.2.1 dX7_append_32 ?_
      refine tni (fun x8 ex8 => ?_)
      have q33 := inc_sp (M7.1 i0 1)
      refine pF X hw hS (ui M7 i0 1 x8) (lt98 (by have h9 := hi0; omega)) (hk_Row hi0) rfl (by decide +kernel) tyX7 tyX7_ok nmX7 1 (by decide) (ref := "RankBench$Row") rfl (by decide +kernel) rfl rfl rfl (Nat.le_of_ble_eq_true rfl) (by rw [hk_Row hi0, ui_same]; rfl) (fun j hj => ui_ne hj) (fun j hj => rfl) (okK_ui hw.2.2.2.2 (Or.inr (Or.inr (Or.inr ⟨rfl, by rw [ex8]; omega, by rw [ex8]; omega⟩)))) dX7_append_33 (fun H locs hw hS => ?_)
      refine tpb (fun M9 eM9 => ?_)
      rw [← eM9] at hw
      refine lv_aload_n X.1 X.2.1 dX7_append_36 rfl (lv_at hl 0 rfl) ?_
      refine lv_iconst (v := 1) X.1 X.2.1 dX7_append_37 (by decide) ?_
      refine pF X hw hS (ui M9 i0 2 1) (lt98 (by have h9 := hi0; omega)) (hk_Row hi0) rfl (by decide +kernel) tyX7 tyX7_ok nmX7 2 (by decide) (ref := "RankBench$Row") rfl (by decide +kernel) rfl (rfl) (rfl) (Nat.le_of_ble_eq_true rfl) (by rw [hk_Row hi0, ui_same]; rfl) (fun j hj => ui_ne hj) (fun j hj => rfl) (okK_ui hw.2.2.2.2 (Or.inr (Or.inr (Or.inl ⟨rfl, Or.inr rfl⟩)))) dX7_append_38 (fun H locs hw hS => ?_)
      refine tpb (fun M10 eM10 => ?_)
      rw [← eM10] at hw
      exact rV X hr hlk hw hS dX7_append_41

def f_X7_clear (M : Mem) (i0 : Nat) (a1 : Int32) : Mem := bnd (ui M i0 1 0) (fun M1 => bnd (ui M1 i0 2 a1) (fun M2 => M2))
set_option maxRecDepth 100000 in
set_option maxHeartbeats 4000000 in
theorem c_X7_clear (l : Launch) (G : En) (A : Nat → Prop) (M : Mem) (i0 : Nat) (hi0 : 34 ≤ i0 ∧ i0 < 66) (a1 : Int32) (hb1 : a1 = 0 ∨ a1 = 1) : WrV true l yX7_clear wsX7_clear ({ frames := 0, cells := 0, slots := 0, locals := 0 }) G A M [.ref (G.2.2 i0), .int a1] (f_X7_clear M i0 a1) := by
  refine WrV.of (cc := cX7_clear) (maxL := 2) (ret := none) (own := RX7) (by decide) rfl rfl (Nat.le_of_ble_eq_true rfl) ?_
  intro p e s m below meth c X hw hr hlk ls hl hS
  have hl : lv_has ls 2 [(0, .ref (G.2.2 i0)), (1, .int a1)] := hl
  unfold f_X7_clear
  refine lv_aload_n X.1 X.2.1 dX7_clear_0 rfl (lv_at hl 0 rfl) ?_
  refine lv_iconst (v := 0) X.1 X.2.1 dX7_clear_1 (by decide) ?_
  refine pF X hw hS (ui M i0 1 0) (lt98 (by have h9 := hi0; omega)) (hk_Row hi0) rfl (by decide +kernel) tyX7 tyX7_ok nmX7 1 (by decide) (ref := "RankBench$Row") rfl (by decide +kernel) rfl rfl rfl (Nat.le_of_ble_eq_true rfl) (by rw [hk_Row hi0, ui_same]; rfl) (fun j hj => ui_ne hj) (fun j hj => rfl) (okK_ui hw.2.2.2.2 (Or.inr (Or.inr (Or.inr ⟨rfl, by decide, by decide⟩)))) dX7_clear_2 (fun H locs hw hS => ?_)
  refine tpb (fun M1 eM1 => ?_)
  rw [← eM1] at hw
  refine lv_aload_n X.1 X.2.1 dX7_clear_5 rfl (lv_at hl 0 rfl) ?_
  refine lv_iload_n X.1 X.2.1 dX7_clear_6 rfl (lv_at hl 1 rfl) ?_
  refine pF X hw hS (ui M1 i0 2 a1) (lt98 (by have h9 := hi0; omega)) (hk_Row hi0) rfl (by decide +kernel) tyX7 tyX7_ok nmX7 2 (by decide) (ref := "RankBench$Row") rfl (by decide +kernel) rfl (nar01 hb1) (fit01 hb1) (Nat.le_of_ble_eq_true rfl) (by rw [hk_Row hi0, ui_same]; rfl) (fun j hj => ui_ne hj) (fun j hj => rfl) (okK_ui hw.2.2.2.2 (Or.inr (Or.inr (Or.inl ⟨rfl, hb1⟩)))) dX7_clear_7 (fun H locs hw hS => ?_)
  refine tpb (fun M2 eM2 => ?_)
  rw [← eM2] at hw
  exact rV X hr hlk hw hS dX7_clear_10
