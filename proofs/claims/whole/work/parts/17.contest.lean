/-! 17.contest -/
def f_X0_size (M : Mem) : Int32 := (M.1 5 2)
set_option maxRecDepth 100000 in
set_option maxHeartbeats 4000000 in
theorem c_X0_size (l : Launch) (G : En) (A : Nat → Prop) (M : Mem)  : RdI true l yX0_size wsX0_size ({ frames := 0, cells := 0, slots := 0, locals := 0 }) G A M [.ref (G.2.2 5)] (f_X0_size M) := by
  refine RdI.of (cc := cX0_size) (maxL := 1) (ret := (some .int)) (own := RX0) (by decide) rfl rfl (Nat.le_of_ble_eq_true rfl) ?_
  intro p e s m below meth c X hw hr hlk ls hl
  have hl : lv_has ls 1 [(0, .ref (G.2.2 5))] := hl
  unfold f_X0_size
  refine lv_aload_n X.1 X.2.1 dX0_size_0 rfl (lv_at hl 0 rfl) ?_
  refine gF X hw (by decide) hk_Ct rfl (by decide +kernel) 2 (by decide) (ref := "RankBench$Contest") rfl (by decide +kernel) rfl dX0_size_1 ?_
  exact rI X hr hlk dX0_size_4

def f_X0_clear (M : Mem) : Mem := bnd (ul M 5 1 1) (fun M1 => bnd (ui M1 5 2 0) (fun M2 => M2))
set_option maxRecDepth 100000 in
set_option maxHeartbeats 4000000 in
theorem c_X0_clear (l : Launch) (G : En) (A : Nat → Prop) (M : Mem)  : WrV true l yX0_clear wsX0_clear ({ frames := 0, cells := 0, slots := 0, locals := 0 }) G A M [.ref (G.2.2 5)] (f_X0_clear M) := by
  refine WrV.of (cc := cX0_clear) (maxL := 1) (ret := none) (own := RX0) (by decide) rfl rfl (Nat.le_of_ble_eq_true rfl) ?_
  intro p e s m below meth c X hw hr hlk ls hl hS
  have hl : lv_has ls 1 [(0, .ref (G.2.2 5))] := hl
  unfold f_X0_clear
  refine lv_aload_n X.1 X.2.1 dX0_clear_0 rfl (lv_at hl 0 rfl) ?_
  refine lv_lconst (v := 1) X.1 X.2.1 dX0_clear_1 (by decide) ?_
  refine pF X hw hS (ul M 5 1 1) (by decide) hk_Ct rfl (by decide +kernel) tyX0 tyX0_ok nmX0 1 (by decide) (ref := "RankBench$Contest") rfl (by decide +kernel) rfl rfl rfl (Nat.le_of_ble_eq_true rfl) (by rw [hk_Ct, ul_same]; rfl) (fun j hj => rfl) (fun j hj => ul_ne hj) hw.2.2.2.2 dX0_clear_2 (fun H locs hw hS => ?_)
  refine tpb (fun M1 eM1 => ?_)
  rw [← eM1] at hw
  refine lv_aload_n X.1 X.2.1 dX0_clear_5 rfl (lv_at hl 0 rfl) ?_
  refine lv_iconst (v := 0) X.1 X.2.1 dX0_clear_6 (by decide) ?_
  refine pF X hw hS (ui M1 5 2 0) (by decide) hk_Ct rfl (by decide +kernel) tyX0 tyX0_ok nmX0 2 (by decide) (ref := "RankBench$Contest") rfl (by decide +kernel) rfl rfl rfl (Nat.le_of_ble_eq_true rfl) (by rw [hk_Ct, ui_same]; rfl) (fun j hj => ui_ne hj) (fun j hj => rfl) (okK_ui hw.2.2.2.2 (Or.inr (Or.inl (by decide)))) dX0_clear_7 (fun H locs hw hS => ?_)
  refine tpb (fun M2 eM2 => ?_)
  rw [← eM2] at hw
  exact rV X hr hlk hw hS dX0_clear_10

def f_X0_append_50 : Nat → Mem → Nat → Int64 → Int32 → Mem
  | 0, M, _, _, _ => M
  | n1 + 1, M, v1, v2, v4 => if (M.1 5 2) ≤ v4 then (bnd (f_X1_above M v1) (fun r17 => bnd (f_X1_below M v1) (fun r18 => bnd (r17 * (v2 / r18)) (fun w19 => bnd (ul M 6 (M.1 5 2).toNatClampNeg w19) (fun M20 => bnd (ul M20 5 1 v2) (fun M21 => bnd ((M21.1 5 2) + 1) (fun x22 => bnd (ui M21 5 2 x22) (fun M23 => M23)))))))) else (if (8 : Int32) ≤ v4 then (bnd (f_X1_above M v1) (fun r27 => bnd (f_X1_below M v1) (fun r28 => bnd (r27 * (v2 / r28)) (fun w29 => bnd (ul M 6 (M.1 5 2).toNatClampNeg w29) (fun M30 => bnd (ul M30 5 1 v2) (fun M31 => bnd ((M31.1 5 2) + 1) (fun x32 => bnd (ui M31 5 2 x32) (fun M33 => M33)))))))) else (bnd ((M.2 6 v4.toNatClampNeg) * (v2 / (M.2 5 1))) (fun w35 => bnd (ul M 6 v4.toNatClampNeg w35) (fun M36 => f_X0_append_50 n1 M36 v1 v2 (v4 + 1)))))
def f_X0_append (M : Mem) (i1 : Nat) : Mem := if (M.1 5 2) < 0 then M else (if (8 : Int32) ≤ (M.1 5 2) then M else (if (M.2 5 1) < 1 then M else (bnd (f_X1_below M i1) (fun r10 => if (1 : Int64) ≤ r10 then (bnd (f_X1_below M i1) (fun r13 => bnd (f_X8_commonMultiple (M.2 5 1) r13) (fun r14 => f_X0_append_50 9 M i1 r14 0))) else M))))
set_option maxRecDepth 100000 in
set_option maxHeartbeats 4000000 in
theorem c_X0_append (l : Launch) (G : En) (A : Nat → Prop) (M : Mem) (i1 : Nat) (hi1 : 2 ≤ i1 ∧ i1 < 5) : WrV true l yX0_append wsX0_append ({ frames := 3, cells := 0, slots := 0, locals := 68 }) G A M [.ref (G.2.2 5), .ref (G.2.2 i1)] (f_X0_append M i1) := by
  refine WrV.of (cc := cX0_append) (maxL := 5) (ret := none) (own := RX0) (by decide) rfl rfl (Nat.le_of_ble_eq_true rfl) ?_
  intro p e s m below meth c X hw hr hlk ls hl hS
  have hl : lv_has ls 5 [(0, .ref (G.2.2 5)), (1, .ref (G.2.2 i1))] := hl
  unfold f_X0_append
  refine lv_aload_n X.1 X.2.1 dX0_append_0 rfl (lv_at hl 0 rfl) ?_
  refine gF X hw (by decide) hk_Ct rfl (by decide +kernel) 2 (by decide) (ref := "RankBench$Contest") rfl (by decide +kernel) rfl dX0_append_1 ?_
  refine bz_lt (tgt := 34) X dX0_append_4 (by decide) (fun c1 => ?_) (fun c1 => ?_)
  · skip
    have t2 : (M.1 5 2).toInt < 0 := i_lt c1
    exact rV X hr hlk hw hS dX0_append_34
  · skip
    have t3 : 0 ≤ (M.1 5 2).toInt := i_nlt c1
    refine lv_aload_n X.1 X.2.1 dX0_append_7 rfl (lv_at hl 0 rfl) ?_
    refine gF X hw (by decide) hk_Ct rfl (by decide +kernel) 2 (by decide) (ref := "RankBench$Contest") rfl (by decide +kernel) rfl dX0_append_8 ?_
    refine lv_bipush (v := 8) X.1 X.2.1 dX0_append_11 (by decide) ?_
    refine bi_ge (tgt := 34) X dX0_append_13 (by decide) (fun c4 => ?_) (fun c4 => ?_)
    · skip
      have t5 : 8 ≤ (M.1 5 2).toInt := i_le c4
      exact rV X hr hlk hw hS dX0_append_34
    · skip
      have t6 : (M.1 5 2).toInt < 8 := i_nle c4
      refine lv_aload_n X.1 X.2.1 dX0_append_16 rfl (lv_at hl 0 rfl) ?_
      refine gF X hw (by decide) hk_Ct rfl (by decide +kernel) 1 (by decide) (ref := "RankBench$Contest") rfl (by decide +kernel) rfl dX0_append_17 ?_
      refine lv_lconst (v := 1) X.1 X.2.1 dX0_append_20 (by decide) ?_
      refine bl_lt (tgt := 34) X dX0_append_21 dX0_append_22 (by decide) (fun c7 => ?_) (fun c7 => ?_)
      · skip
        have t8 : (M.2 5 1).toInt < 1 := l_lt c7
        exact rV X hr hlk hw hS dX0_append_34
      · skip
        have t9 : 1 ≤ (M.2 5 1).toInt := l_nlt c7
        refine lv_aload_n X.1 X.2.1 dX0_append_25 rfl (lv_at hl 1 rfl) ?_
        refine cVL [] [] X hw (c_X1_below l G A M i1 hi1) (cwV 0 X.2.2.2.2 gX0_append_X1_below rfl rfl rfl (by decide +kernel) ⟨Nat.le_of_ble_eq_true rfl, Nat.le_of_ble_eq_true rfl⟩) (hw.recv (lt98 (by have h9 := hi1; omega)) (hk_Fr hi1) rfl) rfl rfl hl.1 (Nat.le_of_ble_eq_true rfl) dX0_append_26 ?_
        refine tnl (fun r10 er10 => ?_)
        have z26 : r10 = M.2 i1 1 := er10
        have z26i := congrArg Int64.toInt z26
        refine lv_lconst (v := 1) X.1 X.2.1 dX0_append_29 (by decide) ?_
        refine bl_ge (tgt := 35) X dX0_append_30 dX0_append_31 (by decide) (fun c11 => ?_) (fun c11 => ?_)
        · skip
          have t12 : 1 ≤ r10.toInt := l_le c11
          refine lv_aload_n X.1 X.2.1 dX0_append_35 rfl (lv_at hl 0 rfl) ?_
          refine gF X hw (by decide) hk_Ct rfl (by decide +kernel) 1 (by decide) (ref := "RankBench$Contest") rfl (by decide +kernel) rfl dX0_append_36 ?_
          refine lv_aload_n X.1 X.2.1 dX0_append_39 rfl (lv_at hl 1 rfl) ?_
          refine cVL [] [.long (M.2 5 1)] X hw (c_X1_below l G A M i1 hi1) (cwV 0 X.2.2.2.2 gX0_append_X1_below rfl rfl rfl (by decide +kernel) ⟨Nat.le_of_ble_eq_true rfl, Nat.le_of_ble_eq_true rfl⟩) (hw.recv (lt98 (by have h9 := hi1; omega)) (hk_Fr hi1) rfl) rfl rfl hl.1 (Nat.le_of_ble_eq_true rfl) dX0_append_40 ?_
          refine tnl (fun r13 er13 => ?_)
          refine cNL [.long (M.2 5 1), .long r13] [] X hw (c_X8_commonMultiple l G A M (M.2 5 1) r13) ⟨va_cnB 2 X.2.2.2.2 gX0_append_X8_commonMultiple_n29 rfl rfl rfl (hw.2.2.2.1 rfl).1.1 (X.2.2.2.2 (.initialized RX8) (by decide +kernel)) (by decide +kernel) ⟨Nat.le_of_ble_eq_true rfl, Nat.le_of_ble_eq_true rfl⟩, X.2.2.2.2 (.static yX8_commonMultiple) (by decide +kernel), trivial⟩  rfl rfl hl.1 (Nat.le_of_ble_eq_true rfl) dX0_append_43 ?_
          refine tnl (fun r14 er14 => ?_)
          refine lv_lstore_n (lv' := [(2, .long r14), (0, .ref (G.2.2 5)), (1, .ref (G.2.2 i1))]) X.1 X.2.1 dX0_append_46 rfl hl (by decide) rfl (fun ls hl => ?_)
          refine lv_iconst (v := 0) X.1 X.2.1 dX0_append_47 (by decide) ?_
          refine lv_istore (lv' := [(4, .int 0), (2, .long r14), (0, .ref (G.2.2 5)), (1, .ref (G.2.2 i1))]) X.1 X.2.1 dX0_append_48 hl (by decide) rfl (fun ls hl => ?_)
          have L1 : ∀ (n1 : Nat) (M : Mem) (v1 : Nat) (v2 : Int64) (v4 : Int32) (hv1 : 2 ≤ v1 ∧ v1 < 5) (hm1 : (8 - v4.toInt : Int).toNat < n1) (hi1_0 : 0 ≤ v4.toInt) (hi1_1 : 1 ≤ (M.2 5 1).toInt) (hi1_2 : 1 ≤ (M.2 v1 1).toInt) (hi1_3 : 0 ≤ (M.1 5 2).toInt) (hi1_4 : (M.1 5 2).toInt < 8), ∀ (H : Heap) (locs : List Loc), WD true G A M s H → va_S A s.heap H locs → ∀ ls : Array Slot, lv_has ls 5 [(0, .ref (G.2.2 5)), (1, .ref (G.2.2 v1)), (2, .long v2), (4, .int v4)] → W p l e ({ frames := 3, cells := 0, slots := 0, locals := 68 } : Room) s m ([.ref (G.2.2 5), .ref (G.2.2 i1)] : List Value).toArray below meth c H locs 0 0 (TQv true G A below ([.ref (G.2.2 5), .ref (G.2.2 i1)] : List Value).toArray s (f_X0_append_50 n1 M v1 v2 v4)) (F0 m 50 ls []) := by
            intro n1
            induction n1 with
            | zero => intro M v1 v2 v4 hv1 hm1 hi1_0 hi1_1 hi1_2 hi1_3 hi1_4; exact absurd hm1 (by omega)
            | succ n1 ih1 =>
              intro M v1 v2 v4 hv1 hm1 hi1_0 hi1_1 hi1_2 hi1_3 hi1_4 H locs hw hS ls hl
              rw [f_X0_append_50]
              refine lv_iload X.1 X.2.1 dX0_append_50 (lv_at hl 3 rfl) ?_
              refine lv_aload_n X.1 X.2.1 dX0_append_52 rfl (lv_at hl 0 rfl) ?_
              refine gF X hw (by decide) hk_Ct rfl (by decide +kernel) 2 (by decide) (ref := "RankBench$Contest") rfl (by decide +kernel) rfl dX0_append_53 ?_
              refine bi_ge (tgt := 88) X dX0_append_56 (by decide) (fun c15 => ?_) (fun c15 => ?_)
              · skip
                have t16 : (M.1 5 2).toInt ≤ v4.toInt := i_le c15
                refine lv_aload_n X.1 X.2.1 dX0_append_88 rfl (lv_at hl 0 rfl) ?_
                refine gF X hw (by decide) hk_Ct rfl (by decide +kernel) 0 (by decide) (ref := "RankBench$Contest") rfl (by decide +kernel) rfl dX0_append_89 ?_
                refine lv_aload_n X.1 X.2.1 dX0_append_92 rfl (lv_at hl 0 rfl) ?_
                refine gF X hw (by decide) hk_Ct rfl (by decide +kernel) 2 (by decide) (ref := "RankBench$Contest") rfl (by decide +kernel) rfl dX0_append_93 ?_
                refine lv_aload_n X.1 X.2.1 dX0_append_96 rfl (lv_at hl 1 rfl) ?_
                refine cVL [] [.int (M.1 5 2), .ref (G.2.2 6)] X hw (c_X1_above l G A M v1 hv1) (cwV 0 X.2.2.2.2 gX0_append_X1_above rfl rfl rfl (by decide +kernel) ⟨Nat.le_of_ble_eq_true rfl, Nat.le_of_ble_eq_true rfl⟩) (hw.recv (lt98 (by have h9 := hv1; omega)) (hk_Fr hv1) rfl) rfl rfl hl.1 (Nat.le_of_ble_eq_true rfl) dX0_append_97 ?_
                refine tnl (fun r17 er17 => ?_)
                refine lv_lload_n X.1 X.2.1 dX0_append_100 rfl (lv_at hl 2 rfl) ?_
                refine lv_aload_n X.1 X.2.1 dX0_append_101 rfl (lv_at hl 1 rfl) ?_
                refine cVL [] [.long v2, .long r17, .int (M.1 5 2), .ref (G.2.2 6)] X hw (c_X1_below l G A M v1 hv1) (cwV 0 X.2.2.2.2 gX0_append_X1_below rfl rfl rfl (by decide +kernel) ⟨Nat.le_of_ble_eq_true rfl, Nat.le_of_ble_eq_true rfl⟩) (hw.recv (lt98 (by have h9 := hv1; omega)) (hk_Fr hv1) rfl) rfl rfl hl.1 (Nat.le_of_ble_eq_true rfl) dX0_append_102 ?_
                refine tnl (fun r18 er18 => ?_)
                have z102 : r18 = M.2 v1 1 := er18
                have z102i := congrArg Int64.toInt z102
                refine lv_ldiv X.1 X.2.1 dX0_append_105 (l_nz (by omega)) ?_
                refine lv_lmul X.1 X.2.1 dX0_append_106 ?_
                refine tnl (fun w19 ew19 => ?_)
                refine sL X hw hS (ul M 6 (M.1 5 2).toNatClampNeg w19) (by decide) hk_Df (vp_in_iff.mpr ⟨by omega, by omega⟩) (by rw [hk_Df, ul_same]) (fun j hj => rfl) (fun j hj => ul_ne hj) hw.2.2.2.2 dX0_append_107 (fun H locs hw hS => ?_)
                refine tpb (fun M20 eM20 => ?_)
                rw [← eM20] at hw
                refine lv_aload_n X.1 X.2.1 dX0_append_108 rfl (lv_at hl 0 rfl) ?_
                refine lv_lload_n X.1 X.2.1 dX0_append_109 rfl (lv_at hl 2 rfl) ?_
                refine pF X hw hS (ul M20 5 1 v2) (by decide) hk_Ct rfl (by decide +kernel) tyX0 tyX0_ok nmX0 1 (by decide) (ref := "RankBench$Contest") rfl (by decide +kernel) rfl rfl rfl (Nat.le_of_ble_eq_true rfl) (by rw [hk_Ct, ul_same]; rfl) (fun j hj => rfl) (fun j hj => ul_ne hj) hw.2.2.2.2 dX0_append_110 (fun H locs hw hS => ?_)
                refine tpb (fun M21 eM21 => ?_)
                rw [← eM21] at hw
                refine lv_aload_n X.1 X.2.1 dX0_append_113 rfl (lv_at hl 0 rfl) ?_
                refine lv_dup X.1 X.2.1 dX0_append_114 rfl ?_
                refine gF X hw (by decide) hk_Ct rfl (by decide +kernel) 2 (by decide) (ref := "RankBench$Contest") rfl (by decide +kernel) rfl dX0_append_115 ?_
                refine lv_iconst (v := 1) X.1 X.2.1 dX0_append_118 (by decide) ?_
                refine lv_iadd X.1 X.2.1 dX0_append_119 ?_
                refine tni (fun x22 ex22 => ?_)
                refine pF X hw hS (ui M21 5 2 x22) (by decide) hk_Ct rfl (by decide +kernel) tyX0 tyX0_ok nmX0 2 (by decide) (ref := "RankBench$Contest") rfl (by decide +kernel) rfl rfl rfl (Nat.le_of_ble_eq_true rfl) (by rw [hk_Ct, ui_same]; rfl) (fun j hj => ui_ne hj) (fun j hj => rfl) (okK_ui hw.2.2.2.2 (Or.inr (Or.inl (by decide)))) dX0_append_120 (fun H locs hw hS => ?_)
                refine tpb (fun M23 eM23 => ?_)
                rw [← eM23] at hw
                exact rV X hr hlk hw hS dX0_append_123
              · skip
                have t24 : v4.toInt < (M.1 5 2).toInt := i_nle c15
                refine lv_iload X.1 X.2.1 dX0_append_59 (lv_at hl 3 rfl) ?_
                refine lv_bipush (v := 8) X.1 X.2.1 dX0_append_61 (by decide) ?_
                refine bi_ge (tgt := 88) X dX0_append_63 (by decide) (fun c25 => ?_) (fun c25 => ?_)
                · skip
                  have t26 : 8 ≤ v4.toInt := i_le c25
                  refine lv_aload_n X.1 X.2.1 dX0_append_88 rfl (lv_at hl 0 rfl) ?_
                  refine gF X hw (by decide) hk_Ct rfl (by decide +kernel) 0 (by decide) (ref := "RankBench$Contest") rfl (by decide +kernel) rfl dX0_append_89 ?_
                  refine lv_aload_n X.1 X.2.1 dX0_append_92 rfl (lv_at hl 0 rfl) ?_
                  refine gF X hw (by decide) hk_Ct rfl (by decide +kernel) 2 (by decide) (ref := "RankBench$Contest") rfl (by decide +kernel) rfl dX0_append_93 ?_
                  refine lv_aload_n X.1 X.2.1 dX0_append_96 rfl (lv_at hl 1 rfl) ?_
                  refine cVL [] [.int (M.1 5 2), .ref (G.2.2 6)] X hw (c_X1_above l G A M v1 hv1) (cwV 0 X.2.2.2.2 gX0_append_X1_above rfl rfl rfl (by decide +kernel) ⟨Nat.le_of_ble_eq_true rfl, Nat.le_of_ble_eq_true rfl⟩) (hw.recv (lt98 (by have h9 := hv1; omega)) (hk_Fr hv1) rfl) rfl rfl hl.1 (Nat.le_of_ble_eq_true rfl) dX0_append_97 ?_
                  refine tnl (fun r27 er27 => ?_)
                  refine lv_lload_n X.1 X.2.1 dX0_append_100 rfl (lv_at hl 2 rfl) ?_
                  refine lv_aload_n X.1 X.2.1 dX0_append_101 rfl (lv_at hl 1 rfl) ?_
                  refine cVL [] [.long v2, .long r27, .int (M.1 5 2), .ref (G.2.2 6)] X hw (c_X1_below l G A M v1 hv1) (cwV 0 X.2.2.2.2 gX0_append_X1_below rfl rfl rfl (by decide +kernel) ⟨Nat.le_of_ble_eq_true rfl, Nat.le_of_ble_eq_true rfl⟩) (hw.recv (lt98 (by have h9 := hv1; omega)) (hk_Fr hv1) rfl) rfl rfl hl.1 (Nat.le_of_ble_eq_true rfl) dX0_append_102 ?_
                  refine tnl (fun r28 er28 => ?_)
                  have z102 : r28 = M.2 v1 1 := er28
                  have z102i := congrArg Int64.toInt z102
                  refine lv_ldiv X.1 X.2.1 dX0_append_105 (l_nz (by omega)) ?_
                  refine lv_lmul X.1 X.2.1 dX0_append_106 ?_
                  refine tnl (fun w29 ew29 => ?_)
                  refine sL X hw hS (ul M 6 (M.1 5 2).toNatClampNeg w29) (by decide) hk_Df (vp_in_iff.mpr ⟨by omega, by omega⟩) (by rw [hk_Df, ul_same]) (fun j hj => rfl) (fun j hj => ul_ne hj) hw.2.2.2.2 dX0_append_107 (fun H locs hw hS => ?_)
                  refine tpb (fun M30 eM30 => ?_)
                  rw [← eM30] at hw
                  refine lv_aload_n X.1 X.2.1 dX0_append_108 rfl (lv_at hl 0 rfl) ?_
                  refine lv_lload_n X.1 X.2.1 dX0_append_109 rfl (lv_at hl 2 rfl) ?_
                  refine pF X hw hS (ul M30 5 1 v2) (by decide) hk_Ct rfl (by decide +kernel) tyX0 tyX0_ok nmX0 1 (by decide) (ref := "RankBench$Contest") rfl (by decide +kernel) rfl rfl rfl (Nat.le_of_ble_eq_true rfl) (by rw [hk_Ct, ul_same]; rfl) (fun j hj => rfl) (fun j hj => ul_ne hj) hw.2.2.2.2 dX0_append_110 (fun H locs hw hS => ?_)
                  refine tpb (fun M31 eM31 => ?_)
                  rw [← eM31] at hw
                  refine lv_aload_n X.1 X.2.1 dX0_append_113 rfl (lv_at hl 0 rfl) ?_
                  refine lv_dup X.1 X.2.1 dX0_append_114 rfl ?_
                  refine gF X hw (by decide) hk_Ct rfl (by decide +kernel) 2 (by decide) (ref := "RankBench$Contest") rfl (by decide +kernel) rfl dX0_append_115 ?_
                  refine lv_iconst (v := 1) X.1 X.2.1 dX0_append_118 (by decide) ?_
                  refine lv_iadd X.1 X.2.1 dX0_append_119 ?_
                  refine tni (fun x32 ex32 => ?_)
                  refine pF X hw hS (ui M31 5 2 x32) (by decide) hk_Ct rfl (by decide +kernel) tyX0 tyX0_ok nmX0 2 (by decide) (ref := "RankBench$Contest") rfl (by decide +kernel) rfl rfl rfl (Nat.le_of_ble_eq_true rfl) (by rw [hk_Ct, ui_same]; rfl) (fun j hj => ui_ne hj) (fun j hj => rfl) (okK_ui hw.2.2.2.2 (Or.inr (Or.inl (by decide)))) dX0_append_120 (fun H locs hw hS => ?_)
                  refine tpb (fun M33 eM33 => ?_)
                  rw [← eM33] at hw
                  exact rV X hr hlk hw hS dX0_append_123
                · skip
                  have t34 : v4.toInt < 8 := i_nle c25
                  refine lv_aload_n X.1 X.2.1 dX0_append_66 rfl (lv_at hl 0 rfl) ?_
                  refine gF X hw (by decide) hk_Ct rfl (by decide +kernel) 0 (by decide) (ref := "RankBench$Contest") rfl (by decide +kernel) rfl dX0_append_67 ?_
                  refine lv_iload X.1 X.2.1 dX0_append_70 (lv_at hl 3 rfl) ?_
                  refine lv_dup2_11 X.1 X.2.1 dX0_append_72 rfl rfl ?_
                  refine aL X hw (by decide) hk_Df (vp_in_iff.mpr ⟨by omega, by omega⟩) dX0_append_73 ?_
                  refine lv_lload_n X.1 X.2.1 dX0_append_74 rfl (lv_at hl 2 rfl) ?_
                  refine lv_aload_n X.1 X.2.1 dX0_append_75 rfl (lv_at hl 0 rfl) ?_
                  refine gF X hw (by decide) hk_Ct rfl (by decide +kernel) 1 (by decide) (ref := "RankBench$Contest") rfl (by decide +kernel) rfl dX0_append_76 ?_
                  refine lv_ldiv X.1 X.2.1 dX0_append_79 (l_nz (by omega)) ?_
                  refine lv_lmul X.1 X.2.1 dX0_append_80 ?_
                  refine tnl (fun w35 ew35 => ?_)
                  refine sL X hw hS (ul M 6 v4.toNatClampNeg w35) (by decide) hk_Df (vp_in_iff.mpr ⟨by omega, by omega⟩) (by rw [hk_Df, ul_same]) (fun j hj => rfl) (fun j hj => ul_ne hj) hw.2.2.2.2 dX0_append_81 (fun H locs hw hS => ?_)
                  refine tpb (fun M36 eM36 => ?_)
                  rw [← eM36] at hw
                  have h82 := congrArg Int64.toInt (show M36.2 5 1 = M.2 5 1 by rw [eM36, ul_ne (by decide)])
                  have h82b := congrArg Int64.toInt (show M36.2 v1 1 = M.2 v1 1 by rw [eM36, ul_ne (by have h9 := hv1; omega)])
                  refine lv_iinc (v := (v4 + 1)) (lv' := [(4, .int (v4 + 1)), (0, .ref (G.2.2 5)), (1, .ref (G.2.2 v1)), (2, .long v2)]) X.1 X.2.1 dX0_append_82 hl (k := 3) rfl rfl (by decide) rfl (fun ls hl => ?_)
                  refine lv_goto (tgt := 50) X.1 X.2.1 dX0_append_85 (by decide) ?_
                  have q37 := inc_sp v4
                  exact ih1 M36 v1 v2 (v4 + 1) hv1 (by omega) (by omega) (by omega) (by omega) (by rw [eM36]; exact hi1_3) (by rw [eM36]; exact hi1_4) _ _ hw hS ls (lv_sub hl [1, 2, 3, 0] rfl)
          exact L1 9 M i1 r14 0 hi1 (by decide) (by first | omega | decide) (by first | omega | decide) (by first | omega | decide) (by first | omega | decide) (by first | omega | decide) _ _ hw hS ls (lv_sub hl [2, 3, 1, 0] rfl)
        · skip
          have t38 : r10.toInt < 1 := l_nle c11
          exact rV X hr hlk hw hS dX0_append_34

def f_J13_signum_95d88 (a1 : Int64) : Int32 := ((a1 >>> ((63 : Int32).toInt64 &&& 63)) ||| ((-a1).toUInt64 >>> ((63 : Int32).toInt64.toUInt64 &&& Int64.toUInt64 63)).toInt64).toInt32
set_option maxRecDepth 100000 in
set_option maxHeartbeats 4000000 in
theorem c_J13_signum_95d88 (l : Launch) (G : En) (A : Nat → Prop) (M : Mem) (a1 : Int64) : RdI true l yJ13_signum_95d88 wsJ13_signum_95d88 ({ frames := 0, cells := 0, slots := 0, locals := 0 }) G A M [.long a1] (f_J13_signum_95d88 a1) := by
  refine RdI.of (cc := cJ13_signum_95d88) (maxL := 2) (ret := (some .int)) (own := RJ13) (by decide) rfl rfl (Nat.le_of_ble_eq_true rfl) ?_
  intro p e s m below meth c X hw hr hlk ls hl
  have hl : lv_has ls 2 [(0, .long a1)] := hl
  unfold f_J13_signum_95d88
  refine lv_lload_n X.1 X.2.1 dJ13_signum_95d88_0 rfl (lv_at hl 0 rfl) ?_
  refine lv_bipush (v := 63) X.1 X.2.1 dJ13_signum_95d88_1 (by decide) ?_
  refine lv_lshr (v := (a1 >>> ((63 : Int32).toInt64 &&& 63))) X.1 X.2.1 dJ13_signum_95d88_3 rfl ?_
  refine lv_lload_n X.1 X.2.1 dJ13_signum_95d88_4 rfl (lv_at hl 0 rfl) ?_
  refine lv_lneg X.1 X.2.1 dJ13_signum_95d88_5 ?_
  refine lv_bipush (v := 63) X.1 X.2.1 dJ13_signum_95d88_6 (by decide) ?_
  refine lv_lushr (v := ((-a1).toUInt64 >>> ((63 : Int32).toInt64.toUInt64 &&& Int64.toUInt64 63)).toInt64) X.1 X.2.1 dJ13_signum_95d88_8 rfl ?_
  refine lv_lor X.1 X.2.1 dJ13_signum_95d88_9 ?_
  refine lv_l2i (v := ((a1 >>> ((63 : Int32).toInt64 &&& 63)) ||| ((-a1).toUInt64 >>> ((63 : Int32).toInt64.toUInt64 &&& Int64.toUInt64 63)).toInt64).toInt32) X.1 X.2.1 dJ13_signum_95d88_10 rfl ?_
  exact rI X hr hlk dJ13_signum_95d88_11

def f_X0_differencesWithSign_4 : Nat → Mem → Int32 → Int32 → Int32 → Int32
  | 0, M, _, _, _ => 0
  | n1 + 1, M, v1, v2, v3 => if (M.1 5 2) ≤ v3 then v2 else (if (8 : Int32) ≤ v3 then v2 else (bnd (f_J13_signum_95d88 (M.2 6 v3.toNatClampNeg)) (fun r7 => if r7 = v1 then (f_X0_differencesWithSign_4 n1 M v1 (v2 + 1) (v3 + 1)) else (f_X0_differencesWithSign_4 n1 M v1 v2 (v3 + 1)))))
def f_X0_differencesWithSign (M : Mem) (a1 : Int32) : Int32 := f_X0_differencesWithSign_4 9 M a1 0 0
set_option maxRecDepth 100000 in
set_option maxHeartbeats 4000000 in
theorem c_X0_differencesWithSign (l : Launch) (G : En) (A : Nat → Prop) (M : Mem) (a1 : Int32) : RdI true l yX0_differencesWithSign wsX0_differencesWithSign ({ frames := 1, cells := 0, slots := 0, locals := 21 }) G A M [.ref (G.2.2 5), .int a1] (f_X0_differencesWithSign M a1) := by
  refine RdI.of (cc := cX0_differencesWithSign) (maxL := 4) (ret := (some .int)) (own := RX0) (by decide) rfl rfl (Nat.le_of_ble_eq_true rfl) ?_
  intro p e s m below meth c X hw hr hlk ls hl
  have hl : lv_has ls 4 [(0, .ref (G.2.2 5)), (1, .int a1)] := hl
  unfold f_X0_differencesWithSign
  refine lv_iconst (v := 0) X.1 X.2.1 dX0_differencesWithSign_0 (by decide) ?_
  refine lv_istore_n (lv' := [(2, .int 0), (0, .ref (G.2.2 5)), (1, .int a1)]) X.1 X.2.1 dX0_differencesWithSign_1 rfl hl (by decide) rfl (fun ls hl => ?_)
  refine lv_iconst (v := 0) X.1 X.2.1 dX0_differencesWithSign_2 (by decide) ?_
  refine lv_istore_n (lv' := [(3, .int 0), (2, .int 0), (0, .ref (G.2.2 5)), (1, .int a1)]) X.1 X.2.1 dX0_differencesWithSign_3 rfl hl (by decide) rfl (fun ls hl => ?_)
  have L1 : ∀ (n1 : Nat) (v1 : Int32) (v2 : Int32) (v3 : Int32)  (hm1 : (8 - v3.toInt : Int).toNat < n1) (hi1_0 : 0 ≤ v3.toInt), ∀ ls : Array Slot, lv_has ls 4 [(0, .ref (G.2.2 5)), (1, .int v1), (2, .int v2), (3, .int v3)] → W p l e ({ frames := 1, cells := 0, slots := 0, locals := 21 } : Room) s m ([.ref (G.2.2 5), .int a1] : List Value).toArray below meth c s.heap [] 0 0 (TSi below ([.ref (G.2.2 5), .int a1] : List Value).toArray s (f_X0_differencesWithSign_4 n1 M v1 v2 v3)) (F0 m 4 ls []) := by
    intro n1
    induction n1 with
    | zero => intro v1 v2 v3 hm1 hi1_0; exact absurd hm1 (by omega)
    | succ n1 ih1 =>
      intro v1 v2 v3 hm1 hi1_0 ls hl
      rw [f_X0_differencesWithSign_4]
      refine lv_iload_n X.1 X.2.1 dX0_differencesWithSign_4 rfl (lv_at hl 3 rfl) ?_
      refine lv_aload_n X.1 X.2.1 dX0_differencesWithSign_5 rfl (lv_at hl 0 rfl) ?_
      refine gF X hw (by decide) hk_Ct rfl (by decide +kernel) 2 (by decide) (ref := "RankBench$Contest") rfl (by decide +kernel) rfl dX0_differencesWithSign_6 ?_
      refine bi_ge (tgt := 40) X dX0_differencesWithSign_9 (by decide) (fun c1 => ?_) (fun c1 => ?_)
      · skip
        have t2 : (M.1 5 2).toInt ≤ v3.toInt := i_le c1
        refine lv_iload_n X.1 X.2.1 dX0_differencesWithSign_40 rfl (lv_at hl 2 rfl) ?_
        exact rI X hr hlk dX0_differencesWithSign_41
      · skip
        have t3 : v3.toInt < (M.1 5 2).toInt := i_nle c1
        refine lv_iload_n X.1 X.2.1 dX0_differencesWithSign_12 rfl (lv_at hl 3 rfl) ?_
        refine lv_bipush (v := 8) X.1 X.2.1 dX0_differencesWithSign_13 (by decide) ?_
        refine bi_ge (tgt := 40) X dX0_differencesWithSign_15 (by decide) (fun c4 => ?_) (fun c4 => ?_)
        · skip
          have t5 : 8 ≤ v3.toInt := i_le c4
          refine lv_iload_n X.1 X.2.1 dX0_differencesWithSign_40 rfl (lv_at hl 2 rfl) ?_
          exact rI X hr hlk dX0_differencesWithSign_41
        · skip
          have t6 : v3.toInt < 8 := i_nle c4
          refine lv_aload_n X.1 X.2.1 dX0_differencesWithSign_18 rfl (lv_at hl 0 rfl) ?_
          refine gF X hw (by decide) hk_Ct rfl (by decide +kernel) 0 (by decide) (ref := "RankBench$Contest") rfl (by decide +kernel) rfl dX0_differencesWithSign_19 ?_
          refine lv_iload_n X.1 X.2.1 dX0_differencesWithSign_22 rfl (lv_at hl 3 rfl) ?_
          refine aL X hw (by decide) hk_Df (vp_in_iff.mpr ⟨by omega, by omega⟩) dX0_differencesWithSign_23 ?_
          refine cSI [.long (M.2 6 v3.toNatClampNeg)] [] X hw (c_J13_signum_95d88 l G A M (M.2 6 v3.toNatClampNeg)) (va_cwS 1 X.2.2.2.2 gX0_differencesWithSign_J13_signum_95d88 rfl rfl rfl (by decide +kernel) ⟨Nat.le_of_ble_eq_true rfl, Nat.le_of_ble_eq_true rfl⟩)  rfl rfl hl.1 (Nat.le_of_ble_eq_true rfl) dX0_differencesWithSign_24 ?_
          refine tni (fun r7 er7 => ?_)
          refine lv_iload_n X.1 X.2.1 dX0_differencesWithSign_27 rfl (lv_at hl 1 rfl) ?_
          refine bi_ne (tgt := 34) X dX0_differencesWithSign_28 (by decide) (fun c8 => ?_) (fun c8 => ?_)
          · skip
            have t9 : ¬ r7.toInt = v1.toInt := i_ne c8
            refine lv_iinc (v := (v3 + 1)) (lv' := [(3, .int (v3 + 1)), (0, .ref (G.2.2 5)), (1, .int v1), (2, .int v2)]) X.1 X.2.1 dX0_differencesWithSign_34 hl (k := 3) rfl rfl (by decide) rfl (fun ls hl => ?_)
            refine lv_goto (tgt := 4) X.1 X.2.1 dX0_differencesWithSign_37 (by decide) ?_
            have q10 := inc_sp v3
            exact ih1 v1 v2 (v3 + 1) (by omega) (by omega)  ls (lv_sub hl [1, 2, 3, 0] rfl)
          · skip
            have t11 : r7.toInt = v1.toInt := i_eq c8
            refine lv_iinc (v := (v2 + 1)) (lv' := [(2, .int (v2 + 1)), (0, .ref (G.2.2 5)), (1, .int v1), (3, .int v3)]) X.1 X.2.1 dX0_differencesWithSign_31 hl (k := 2) rfl rfl (by decide) rfl (fun ls hl => ?_)
            refine lv_iinc (v := (v3 + 1)) (lv' := [(3, .int (v3 + 1)), (2, .int (v2 + 1)), (0, .ref (G.2.2 5)), (1, .int v1)]) X.1 X.2.1 dX0_differencesWithSign_34 hl (k := 3) rfl rfl (by decide) rfl (fun ls hl => ?_)
            refine lv_goto (tgt := 4) X.1 X.2.1 dX0_differencesWithSign_37 (by decide) ?_
            have q12 := inc_sp v2
            have q13 := inc_sp v3
            exact ih1 v1 (v2 + 1) (v3 + 1) (by omega) (by omega)  ls (lv_sub hl [2, 3, 1, 0] rfl)
  exact L1 9 a1 0 0 (by decide) (by first | omega | decide)  ls (lv_sub hl [2, 3, 1, 0] rfl)

def f_X0_waysBehind_r : Nat → Mem → Int32 → Int32 → Int64 → Int64 → Int64
  | 0, _, _, _, _, _ => 0
  | n + 1, M, a2, a3, a4, a5 => if a3 < 0 then (bnd (if 0 < a4 then a4 else -a4) (fun r3 => if r3 < a5 then 0 else 1)) else (if a2 ≤ a3 then (bnd (if 0 < a4 then a4 else -a4) (fun r8 => if r8 < a5 then 0 else 1)) else (if a3 < 8 then (bnd (M.2 6 a3.toNatClampNeg) (fun w13 => bnd (f_X0_waysBehind_r n M a2 (a3 + 1) (a4 + w13) a5) (fun r15 => bnd (f_X0_waysBehind_r n M a2 (a3 + 1) (a4 - w13) a5) (fun r17 => (r15 + r17))))) else (bnd (if 0 < a4 then a4 else -a4) (fun r19 => if r19 < a5 then 0 else 1))))
def f_X0_waysBehind (M : Mem) (a2 : Int32) (a3 : Int32) (a4 : Int64) (a5 : Int64) : Int64 := f_X0_waysBehind_r 9 M a2 a3 a4 a5
set_option maxRecDepth 100000 in
set_option maxHeartbeats 4000000 in
theorem c_X0_waysBehind_r (l : Launch) (G : En) (A : Nat → Prop) (M : Mem) : ∀ (n : Nat) (a2 : Int32) (a3 : Int32) (a4 : Int64) (a5 : Int64), (8 - a3.toInt : Int).toNat < n → RdL true l yX0_waysBehind wsX0_waysBehind ({ frames := n + 1, cells := 0, slots := 0, locals := 28 * n + 40 }) G A M [.ref (G.2.2 6), .int a2, .int a3, .long a4, .long a5] (f_X0_waysBehind_r n M a2 a3 a4 a5) := by
  intro n
  induction n with
  | zero => intro a2 a3 a4 a5 hm; exact absurd hm (by omega)
  | succ n ih =>
    intro a2 a3 a4 a5 hm
    refine RdL.of (cc := cX0_waysBehind) (maxL := 9) (ret := (some .long)) (own := RX0) (by decide) rfl rfl (Nat.le_of_ble_eq_true rfl) ?_
    intro p e s m below meth c X hw hr hlk ls hl
    have hl : lv_has ls 9 [(0, .ref (G.2.2 6)), (1, .int a2), (2, .int a3), (3, .long a4), (5, .long a5)] := hl
    rw [f_X0_waysBehind_r]
    refine lv_iload_n X.1 X.2.1 dX0_waysBehind_0 rfl (lv_at hl 2 rfl) ?_
    refine bz_lt (tgt := 15) X dX0_waysBehind_1 (by decide) (fun c1 => ?_) (fun c1 => ?_)
    · skip
      have t2 : a3.toInt < 0 := i_lt c1
      refine lv_lload_n X.1 X.2.1 dX0_waysBehind_15 rfl (lv_at hl 3 rfl) ?_
      refine va_mabs_long X.1 X.2.1 (X.2.2.1.trans hl.1.symm) X.2.2.2.1 (X.2.2.2.2 (.methodLink RX0 42 Lib.MathLoose.abs_long.x) (by decide +kernel)) (X.2.2.2.2 (.static Lib.MathLoose.abs_long.x) (by decide +kernel)) (X.2.2.2.2 (.initialized "java/lang/Math") (by decide +kernel)) (X.2.2.2.2 (.code Lib.MathLoose.abs_long.x Lib.MathLoose.abs_long.code 2 (some .long)) (by decide +kernel)) (by show 1 ≤ _ + 1; omega) (by show _ ≤ 28 * (n + 1) + 40; simp <;> omega) (Nat.zero_le _) (Nat.zero_le _) dX0_waysBehind_16 ?_
      refine tnl (fun r3 er3 => ?_)
      refine lv_lload X.1 X.2.1 dX0_waysBehind_19 (lv_at hl 4 rfl) ?_
      refine bl_lt (tgt := 29) X dX0_waysBehind_21 dX0_waysBehind_22 (by decide) (fun c4 => ?_) (fun c4 => ?_)
      · skip
        refine lv_lconst (v := 0) X.1 X.2.1 dX0_waysBehind_29 (by decide) ?_
        exact rL X hr hlk dX0_waysBehind_30
      · skip
        refine lv_lconst (v := 1) X.1 X.2.1 dX0_waysBehind_25 (by decide) ?_
        refine lv_goto (tgt := 30) X.1 X.2.1 dX0_waysBehind_26 (by decide) ?_
        exact rL X hr hlk dX0_waysBehind_30
    · skip
      have t5 : 0 ≤ a3.toInt := i_nlt c1
      refine lv_iload_n X.1 X.2.1 dX0_waysBehind_4 rfl (lv_at hl 2 rfl) ?_
      refine lv_iload_n X.1 X.2.1 dX0_waysBehind_5 rfl (lv_at hl 1 rfl) ?_
      refine bi_ge (tgt := 15) X dX0_waysBehind_6 (by decide) (fun c6 => ?_) (fun c6 => ?_)
      · skip
        have t7 : a2.toInt ≤ a3.toInt := i_le c6
        refine lv_lload_n X.1 X.2.1 dX0_waysBehind_15 rfl (lv_at hl 3 rfl) ?_
        refine va_mabs_long X.1 X.2.1 (X.2.2.1.trans hl.1.symm) X.2.2.2.1 (X.2.2.2.2 (.methodLink RX0 42 Lib.MathLoose.abs_long.x) (by decide +kernel)) (X.2.2.2.2 (.static Lib.MathLoose.abs_long.x) (by decide +kernel)) (X.2.2.2.2 (.initialized "java/lang/Math") (by decide +kernel)) (X.2.2.2.2 (.code Lib.MathLoose.abs_long.x Lib.MathLoose.abs_long.code 2 (some .long)) (by decide +kernel)) (by show 1 ≤ _ + 1; omega) (by show _ ≤ 28 * (n + 1) + 40; simp <;> omega) (Nat.zero_le _) (Nat.zero_le _) dX0_waysBehind_16 ?_
        refine tnl (fun r8 er8 => ?_)
        refine lv_lload X.1 X.2.1 dX0_waysBehind_19 (lv_at hl 4 rfl) ?_
        refine bl_lt (tgt := 29) X dX0_waysBehind_21 dX0_waysBehind_22 (by decide) (fun c9 => ?_) (fun c9 => ?_)
        · skip
          refine lv_lconst (v := 0) X.1 X.2.1 dX0_waysBehind_29 (by decide) ?_
          exact rL X hr hlk dX0_waysBehind_30
        · skip
          refine lv_lconst (v := 1) X.1 X.2.1 dX0_waysBehind_25 (by decide) ?_
          refine lv_goto (tgt := 30) X.1 X.2.1 dX0_waysBehind_26 (by decide) ?_
          exact rL X hr hlk dX0_waysBehind_30
      · skip
        have t10 : a3.toInt < a2.toInt := i_nle c6
        refine lv_iload_n X.1 X.2.1 dX0_waysBehind_9 rfl (lv_at hl 2 rfl) ?_
        refine lv_aload_n X.1 X.2.1 dX0_waysBehind_10 rfl (lv_at hl 0 rfl) ?_
        refine va_alen X.1 X.2.1 hw.2.1 hw.1 6 1 (by rw [wsB_at (by decide), hk_Df]) (v := 8) rfl rfl dX0_waysBehind_11 ?_
        refine bi_lt (tgt := 31) X dX0_waysBehind_12 (by decide) (fun c11 => ?_) (fun c11 => ?_)
        · skip
          have t12 : a3.toInt < 8 := i_lt c11
          refine lv_aload_n X.1 X.2.1 dX0_waysBehind_31 rfl (lv_at hl 0 rfl) ?_
          refine lv_iload_n X.1 X.2.1 dX0_waysBehind_32 rfl (lv_at hl 2 rfl) ?_
          refine aL X hw (by decide) hk_Df (vp_in_iff.mpr ⟨by omega, by omega⟩) dX0_waysBehind_33 ?_
          refine tnl (fun w13 ew13 => ?_)
          refine lv_lstore (lv' := [(7, .long w13), (0, .ref (G.2.2 6)), (1, .int a2), (2, .int a3), (3, .long a4), (5, .long a5)]) X.1 X.2.1 dX0_waysBehind_34 hl (by decide) rfl (fun ls hl => ?_)
          refine lv_aload_n X.1 X.2.1 dX0_waysBehind_36 rfl (lv_at hl 1 rfl) ?_
          refine lv_iload_n X.1 X.2.1 dX0_waysBehind_37 rfl (lv_at hl 2 rfl) ?_
          refine lv_iload_n X.1 X.2.1 dX0_waysBehind_38 rfl (lv_at hl 3 rfl) ?_
          refine lv_iconst (v := 1) X.1 X.2.1 dX0_waysBehind_39 (by decide) ?_
          refine lv_iadd X.1 X.2.1 dX0_waysBehind_40 ?_
          refine lv_lload_n X.1 X.2.1 dX0_waysBehind_41 rfl (lv_at hl 4 rfl) ?_
          refine lv_lload X.1 X.2.1 dX0_waysBehind_42 (lv_at hl 0 rfl) ?_
          refine lv_ladd X.1 X.2.1 dX0_waysBehind_44 ?_
          refine lv_lload X.1 X.2.1 dX0_waysBehind_45 (lv_at hl 5 rfl) ?_
          have q14 := inc_sp a3
          refine cSL [.ref (G.2.2 6), .int a2, .int (a3 + 1), .long (a4 + w13), .long a5] [] X hw (ih a2 (a3 + 1) (a4 + w13) a5 (by omega)) (va_cwS 5 X.2.2.2.2 gX0_waysBehind_X0_waysBehind rfl rfl rfl (by decide +kernel) ⟨Nat.le_refl _, by show 8 + (9 + 11) + (28 * n + 40) ≤ 28 * (n + 1) + 40; omega⟩) rfl rfl hl.1 (Nat.le_of_ble_eq_true rfl) dX0_waysBehind_47 ?_
          refine tnl (fun r15 er15 => ?_)
          refine lv_aload_n X.1 X.2.1 dX0_waysBehind_50 rfl (lv_at hl 1 rfl) ?_
          refine lv_iload_n X.1 X.2.1 dX0_waysBehind_51 rfl (lv_at hl 2 rfl) ?_
          refine lv_iload_n X.1 X.2.1 dX0_waysBehind_52 rfl (lv_at hl 3 rfl) ?_
          refine lv_iconst (v := 1) X.1 X.2.1 dX0_waysBehind_53 (by decide) ?_
          refine lv_iadd X.1 X.2.1 dX0_waysBehind_54 ?_
          refine lv_lload_n X.1 X.2.1 dX0_waysBehind_55 rfl (lv_at hl 4 rfl) ?_
          refine lv_lload X.1 X.2.1 dX0_waysBehind_56 (lv_at hl 0 rfl) ?_
          refine lv_lsub X.1 X.2.1 dX0_waysBehind_58 ?_
          refine lv_lload X.1 X.2.1 dX0_waysBehind_59 (lv_at hl 5 rfl) ?_
          have q16 := inc_sp a3
          refine cSL [.ref (G.2.2 6), .int a2, .int (a3 + 1), .long (a4 - w13), .long a5] [.long r15] X hw (ih a2 (a3 + 1) (a4 - w13) a5 (by omega)) (va_cwS 5 X.2.2.2.2 gX0_waysBehind_X0_waysBehind rfl rfl rfl (by decide +kernel) ⟨Nat.le_refl _, by show 8 + (9 + 11) + (28 * n + 40) ≤ 28 * (n + 1) + 40; omega⟩) rfl rfl hl.1 (Nat.le_of_ble_eq_true rfl) dX0_waysBehind_61 ?_
          refine tnl (fun r17 er17 => ?_)
          refine lv_ladd X.1 X.2.1 dX0_waysBehind_64 ?_
          exact rL X hr hlk dX0_waysBehind_65
        · skip
          have t18 : 8 ≤ a3.toInt := i_nlt c11
          refine lv_lload_n X.1 X.2.1 dX0_waysBehind_15 rfl (lv_at hl 3 rfl) ?_
          refine va_mabs_long X.1 X.2.1 (X.2.2.1.trans hl.1.symm) X.2.2.2.1 (X.2.2.2.2 (.methodLink RX0 42 Lib.MathLoose.abs_long.x) (by decide +kernel)) (X.2.2.2.2 (.static Lib.MathLoose.abs_long.x) (by decide +kernel)) (X.2.2.2.2 (.initialized "java/lang/Math") (by decide +kernel)) (X.2.2.2.2 (.code Lib.MathLoose.abs_long.x Lib.MathLoose.abs_long.code 2 (some .long)) (by decide +kernel)) (by show 1 ≤ _ + 1; omega) (by show _ ≤ 28 * (n + 1) + 40; simp <;> omega) (Nat.zero_le _) (Nat.zero_le _) dX0_waysBehind_16 ?_
          refine tnl (fun r19 er19 => ?_)
          refine lv_lload X.1 X.2.1 dX0_waysBehind_19 (lv_at hl 4 rfl) ?_
          refine bl_lt (tgt := 29) X dX0_waysBehind_21 dX0_waysBehind_22 (by decide) (fun c20 => ?_) (fun c20 => ?_)
          · skip
            refine lv_lconst (v := 0) X.1 X.2.1 dX0_waysBehind_29 (by decide) ?_
            exact rL X hr hlk dX0_waysBehind_30
          · skip
            refine lv_lconst (v := 1) X.1 X.2.1 dX0_waysBehind_25 (by decide) ?_
            refine lv_goto (tgt := 30) X.1 X.2.1 dX0_waysBehind_26 (by decide) ?_
            exact rL X hr hlk dX0_waysBehind_30
theorem c_X0_waysBehind (l : Launch) (G : En) (A : Nat → Prop) (M : Mem) (a2 : Int32) (a3 : Int32) (a4 : Int64) (a5 : Int64) (hc : 0 ≤ a3.toInt) : RdL true l yX0_waysBehind wsX0_waysBehind ({ frames := 10, cells := 0, slots := 0, locals := 292 }) G A M [.ref (G.2.2 6), .int a2, .int a3, .long a4, .long a5] (f_X0_waysBehind M a2 a3 a4 a5) := c_X0_waysBehind_r l G A M 9 a2 a3 a4 a5 (by omega)

def f_X0_waysAsFarApart_4 : Nat → Mem → Int64 → Int32 → Int64
  | 0, M, _, _ => 0
  | n1 + 1, M, v1, v3 => if (M.1 5 2) ≤ v3 then (bnd (if 0 < v1 then v1 else -v1) (fun r3 => bnd (f_X0_waysBehind M (M.1 5 2) 0 0 r3) (fun r4 => r4))) else (if (8 : Int32) ≤ v3 then (bnd (if 0 < v1 then v1 else -v1) (fun r8 => bnd (f_X0_waysBehind M (M.1 5 2) 0 0 r8) (fun r9 => r9))) else (bnd (v1 + (M.2 6 v3.toNatClampNeg)) (fun w11 => f_X0_waysAsFarApart_4 n1 M w11 (v3 + 1))))
def f_X0_waysAsFarApart (M : Mem) : Int64 := f_X0_waysAsFarApart_4 9 M 0 0
set_option maxRecDepth 100000 in
set_option maxHeartbeats 4000000 in
theorem c_X0_waysAsFarApart (l : Launch) (G : En) (A : Nat → Prop) (M : Mem)  : RdL true l yX0_waysAsFarApart wsX0_waysAsFarApart ({ frames := 11, cells := 0, slots := 0, locals := 320 }) G A M [.ref (G.2.2 5)] (f_X0_waysAsFarApart M) := by
  refine RdL.of (cc := cX0_waysAsFarApart) (maxL := 4) (ret := (some .long)) (own := RX0) (by decide) rfl rfl (Nat.le_of_ble_eq_true rfl) ?_
  intro p e s m below meth c X hw hr hlk ls hl
  have hl : lv_has ls 4 [(0, .ref (G.2.2 5))] := hl
  unfold f_X0_waysAsFarApart
  refine lv_lconst (v := 0) X.1 X.2.1 dX0_waysAsFarApart_0 (by decide) ?_
  refine lv_lstore_n (lv' := [(1, .long 0), (0, .ref (G.2.2 5))]) X.1 X.2.1 dX0_waysAsFarApart_1 rfl hl (by decide) rfl (fun ls hl => ?_)
  refine lv_iconst (v := 0) X.1 X.2.1 dX0_waysAsFarApart_2 (by decide) ?_
  refine lv_istore_n (lv' := [(3, .int 0), (1, .long 0), (0, .ref (G.2.2 5))]) X.1 X.2.1 dX0_waysAsFarApart_3 rfl hl (by decide) rfl (fun ls hl => ?_)
  have L1 : ∀ (n1 : Nat) (v1 : Int64) (v3 : Int32)  (hm1 : (8 - v3.toInt : Int).toNat < n1) (hi1_0 : 0 ≤ v3.toInt), ∀ ls : Array Slot, lv_has ls 4 [(0, .ref (G.2.2 5)), (1, .long v1), (3, .int v3)] → W p l e ({ frames := 11, cells := 0, slots := 0, locals := 320 } : Room) s m ([.ref (G.2.2 5)] : List Value).toArray below meth c s.heap [] 0 0 (TSl below ([.ref (G.2.2 5)] : List Value).toArray s (f_X0_waysAsFarApart_4 n1 M v1 v3)) (F0 m 4 ls []) := by
    intro n1
    induction n1 with
    | zero => intro v1 v3 hm1 hi1_0; exact absurd hm1 (by omega)
    | succ n1 ih1 =>
      intro v1 v3 hm1 hi1_0 ls hl
      rw [f_X0_waysAsFarApart_4]
      refine lv_iload_n X.1 X.2.1 dX0_waysAsFarApart_4 rfl (lv_at hl 2 rfl) ?_
      refine lv_aload_n X.1 X.2.1 dX0_waysAsFarApart_5 rfl (lv_at hl 0 rfl) ?_
      refine gF X hw (by decide) hk_Ct rfl (by decide +kernel) 2 (by decide) (ref := "RankBench$Contest") rfl (by decide +kernel) rfl dX0_waysAsFarApart_6 ?_
      refine bi_ge (tgt := 33) X dX0_waysAsFarApart_9 (by decide) (fun c1 => ?_) (fun c1 => ?_)
      · skip
        have t2 : (M.1 5 2).toInt ≤ v3.toInt := i_le c1
        refine lv_aload_n X.1 X.2.1 dX0_waysAsFarApart_33 rfl (lv_at hl 0 rfl) ?_
        refine gF X hw (by decide) hk_Ct rfl (by decide +kernel) 0 (by decide) (ref := "RankBench$Contest") rfl (by decide +kernel) rfl dX0_waysAsFarApart_34 ?_
        refine lv_aload_n X.1 X.2.1 dX0_waysAsFarApart_37 rfl (lv_at hl 0 rfl) ?_
        refine gF X hw (by decide) hk_Ct rfl (by decide +kernel) 2 (by decide) (ref := "RankBench$Contest") rfl (by decide +kernel) rfl dX0_waysAsFarApart_38 ?_
        refine lv_iconst (v := 0) X.1 X.2.1 dX0_waysAsFarApart_41 (by decide) ?_
        refine lv_lconst (v := 0) X.1 X.2.1 dX0_waysAsFarApart_42 (by decide) ?_
        refine lv_lload_n X.1 X.2.1 dX0_waysAsFarApart_43 rfl (lv_at hl 1 rfl) ?_
        refine va_mabs_long X.1 X.2.1 (X.2.2.1.trans hl.1.symm) X.2.2.2.1 (X.2.2.2.2 (.methodLink RX0 42 Lib.MathLoose.abs_long.x) (by decide +kernel)) (X.2.2.2.2 (.static Lib.MathLoose.abs_long.x) (by decide +kernel)) (X.2.2.2.2 (.initialized "java/lang/Math") (by decide +kernel)) (X.2.2.2.2 (.code Lib.MathLoose.abs_long.x Lib.MathLoose.abs_long.code 2 (some .long)) (by decide +kernel)) (Nat.le_of_ble_eq_true rfl) (Nat.le_of_ble_eq_true rfl) (Nat.zero_le _) (Nat.zero_le _) dX0_waysAsFarApart_44 ?_
        refine tnl (fun r3 er3 => ?_)
        refine cSL [.ref (G.2.2 6), .int (M.1 5 2), .int 0, .long 0, .long r3] [] X hw (c_X0_waysBehind l G A M (M.1 5 2) 0 0 r3 (by decide)) (va_cwS 5 X.2.2.2.2 gX0_waysAsFarApart_X0_waysBehind rfl rfl rfl (by decide +kernel) ⟨Nat.le_of_ble_eq_true rfl, Nat.le_of_ble_eq_true rfl⟩)  rfl rfl hl.1 (Nat.le_of_ble_eq_true rfl) dX0_waysAsFarApart_47 ?_
        refine tnl (fun r4 er4 => ?_)
        exact rL X hr hlk dX0_waysAsFarApart_50
      · skip
        have t5 : v3.toInt < (M.1 5 2).toInt := i_nle c1
        refine lv_iload_n X.1 X.2.1 dX0_waysAsFarApart_12 rfl (lv_at hl 2 rfl) ?_
        refine lv_bipush (v := 8) X.1 X.2.1 dX0_waysAsFarApart_13 (by decide) ?_
        refine bi_ge (tgt := 33) X dX0_waysAsFarApart_15 (by decide) (fun c6 => ?_) (fun c6 => ?_)
        · skip
          have t7 : 8 ≤ v3.toInt := i_le c6
          refine lv_aload_n X.1 X.2.1 dX0_waysAsFarApart_33 rfl (lv_at hl 0 rfl) ?_
          refine gF X hw (by decide) hk_Ct rfl (by decide +kernel) 0 (by decide) (ref := "RankBench$Contest") rfl (by decide +kernel) rfl dX0_waysAsFarApart_34 ?_
          refine lv_aload_n X.1 X.2.1 dX0_waysAsFarApart_37 rfl (lv_at hl 0 rfl) ?_
          refine gF X hw (by decide) hk_Ct rfl (by decide +kernel) 2 (by decide) (ref := "RankBench$Contest") rfl (by decide +kernel) rfl dX0_waysAsFarApart_38 ?_
          refine lv_iconst (v := 0) X.1 X.2.1 dX0_waysAsFarApart_41 (by decide) ?_
          refine lv_lconst (v := 0) X.1 X.2.1 dX0_waysAsFarApart_42 (by decide) ?_
          refine lv_lload_n X.1 X.2.1 dX0_waysAsFarApart_43 rfl (lv_at hl 1 rfl) ?_
          refine va_mabs_long X.1 X.2.1 (X.2.2.1.trans hl.1.symm) X.2.2.2.1 (X.2.2.2.2 (.methodLink RX0 42 Lib.MathLoose.abs_long.x) (by decide +kernel)) (X.2.2.2.2 (.static Lib.MathLoose.abs_long.x) (by decide +kernel)) (X.2.2.2.2 (.initialized "java/lang/Math") (by decide +kernel)) (X.2.2.2.2 (.code Lib.MathLoose.abs_long.x Lib.MathLoose.abs_long.code 2 (some .long)) (by decide +kernel)) (Nat.le_of_ble_eq_true rfl) (Nat.le_of_ble_eq_true rfl) (Nat.zero_le _) (Nat.zero_le _) dX0_waysAsFarApart_44 ?_
          refine tnl (fun r8 er8 => ?_)
          refine cSL [.ref (G.2.2 6), .int (M.1 5 2), .int 0, .long 0, .long r8] [] X hw (c_X0_waysBehind l G A M (M.1 5 2) 0 0 r8 (by decide)) (va_cwS 5 X.2.2.2.2 gX0_waysAsFarApart_X0_waysBehind rfl rfl rfl (by decide +kernel) ⟨Nat.le_of_ble_eq_true rfl, Nat.le_of_ble_eq_true rfl⟩)  rfl rfl hl.1 (Nat.le_of_ble_eq_true rfl) dX0_waysAsFarApart_47 ?_
          refine tnl (fun r9 er9 => ?_)
          exact rL X hr hlk dX0_waysAsFarApart_50
        · skip
          have t10 : v3.toInt < 8 := i_nle c6
          refine lv_lload_n X.1 X.2.1 dX0_waysAsFarApart_18 rfl (lv_at hl 1 rfl) ?_
          refine lv_aload_n X.1 X.2.1 dX0_waysAsFarApart_19 rfl (lv_at hl 0 rfl) ?_
          refine gF X hw (by decide) hk_Ct rfl (by decide +kernel) 0 (by decide) (ref := "RankBench$Contest") rfl (by decide +kernel) rfl dX0_waysAsFarApart_20 ?_
          refine lv_iload_n X.1 X.2.1 dX0_waysAsFarApart_23 rfl (lv_at hl 2 rfl) ?_
          refine aL X hw (by decide) hk_Df (vp_in_iff.mpr ⟨by omega, by omega⟩) dX0_waysAsFarApart_24 ?_
          refine lv_ladd X.1 X.2.1 dX0_waysAsFarApart_25 ?_
          refine tnl (fun w11 ew11 => ?_)
          refine lv_lstore_n (lv' := [(1, .long w11), (0, .ref (G.2.2 5)), (3, .int v3)]) X.1 X.2.1 dX0_waysAsFarApart_26 rfl hl (by decide) rfl (fun ls hl => ?_)
          refine lv_iinc (v := (v3 + 1)) (lv' := [(3, .int (v3 + 1)), (1, .long w11), (0, .ref (G.2.2 5))]) X.1 X.2.1 dX0_waysAsFarApart_27 hl (k := 2) rfl rfl (by decide) rfl (fun ls hl => ?_)
          refine lv_goto (tgt := 4) X.1 X.2.1 dX0_waysAsFarApart_30 (by decide) ?_
          have q12 := inc_sp v3
          exact ih1 w11 (v3 + 1) (by omega) (by omega)  ls (lv_sub hl [2, 1, 0] rfl)
  exact L1 9 0 0 (by decide) (by first | omega | decide)  ls (lv_sub hl [2, 1, 0] rfl)
