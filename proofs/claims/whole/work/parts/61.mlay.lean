/-! 61.mlay -/
def f_X9_draw (M : Mem) : Int32 × Mem := bnd ((1664525 * (M.1 0 10)) + 1013904223) (fun x1 => bnd (ui M 0 10 x1) (fun M2 => (((M2.1 0 10).toUInt32 >>> ((16 : Int32).toUInt32 &&& Int32.toUInt32 31)).toInt32, M2)))
set_option maxRecDepth 100000 in
set_option maxHeartbeats 4000000 in
theorem c_X9_draw (l : Launch) (G : En) (A : Nat → Prop) (M : Mem)  : WrI false l yX9_draw wsX9_draw ({ frames := 0, cells := 0, slots := 0, locals := 0 }) G A M [.ref (G.2.2 0)] (f_X9_draw M) := by
  refine WrI.of (cc := cX9_draw) (maxL := 1) (ret := (some .int)) (own := RX9) (by decide) rfl rfl (Nat.le_of_ble_eq_true rfl) ?_
  intro p e s m below meth c X hw hr hlk ls hl hS
  have hl : lv_has ls 1 [(0, .ref (G.2.2 0))] := hl
  unfold f_X9_draw
  refine lv_aload_n X.1 X.2.1 dX9_draw_0 rfl (lv_at hl 0 rfl) ?_
  refine lv_ldc (v := 1664525) X.1 X.2.1 X.2.2.2.1 (X.2.2.2.2 (.constant RX9 160 (1664525)) (by decide +kernel)) dX9_draw_1 ?_
  refine lv_aload_n X.1 X.2.1 dX9_draw_3 rfl (lv_at hl 0 rfl) ?_
  refine gF X hw (by decide) hm_MO rfl (by decide +kernel) 10 (by decide) (ref := "RankBenchModel") rfl (by decide +kernel) rfl dX9_draw_4 ?_
  refine lv_imul X.1 X.2.1 dX9_draw_7 ?_
  refine lv_ldc (v := 1013904223) X.1 X.2.1 X.2.2.2.1 (X.2.2.2.2 (.constant RX9 165 (1013904223)) (by decide +kernel)) dX9_draw_8 ?_
  refine lv_iadd X.1 X.2.1 dX9_draw_10 ?_
  refine tni (fun x1 ex1 => ?_)
  refine pF X hw hS (ui M 0 10 x1) (by decide) hm_MO rfl (by decide +kernel) tyX9 tyX9_ok nmX9 10 (by decide) (ref := "RankBenchModel") rfl (by decide +kernel) rfl rfl rfl (Nat.le_of_ble_eq_true rfl) (by rw [hm_MO, ui_same]; rfl) (fun j hj => ui_ne hj) (fun j hj => rfl) (okM_ui hw.2.2.2.2 (Or.inr (Or.inr (Or.inr (Or.inl (by decide)))))) dX9_draw_11 (fun H locs hw hS => ?_)
  refine tpb (fun M2 eM2 => ?_)
  rw [← eM2] at hw
  refine lv_aload_n X.1 X.2.1 dX9_draw_14 rfl (lv_at hl 0 rfl) ?_
  refine gF X hw (by decide) hm_MO rfl (by decide +kernel) 10 (by decide) (ref := "RankBenchModel") rfl (by decide +kernel) rfl dX9_draw_15 ?_
  refine lv_bipush (v := 16) X.1 X.2.1 dX9_draw_18 (by decide) ?_
  refine lv_iushr (v := ((M2.1 0 10).toUInt32 >>> ((16 : Int32).toUInt32 &&& Int32.toUInt32 31)).toInt32) X.1 X.2.1 dX9_draw_20 rfl ?_
  exact rQ X hr hlk hw hS dX9_draw_21

def f_X9_isLaid_2 : Nat → Mem → Int32 → Int32 → Int32
  | 0, M, _, _ => 0
  | n1 + 1, M, v1, v2 => if (M.1 0 13) ≤ v2 then 0 else (if (M.1 7 v2.toNatClampNeg) = v1 then 1 else (f_X9_isLaid_2 n1 M v1 (v2 + 1)))
def f_X9_isLaid (M : Mem) (a1 : Int32) : Int32 := f_X9_isLaid_2 17 M a1 0
set_option maxRecDepth 100000 in
set_option maxHeartbeats 4000000 in
theorem c_X9_isLaid (l : Launch) (G : En) (A : Nat → Prop) (M : Mem) (a1 : Int32) : RdI false l yX9_isLaid wsX9_isLaid ({ frames := 0, cells := 0, slots := 0, locals := 0 }) G A M [.ref (G.2.2 0), .int a1] (f_X9_isLaid M a1) := by
  refine RdI.of (cc := cX9_isLaid) (maxL := 3) (ret := (some .boolean)) (own := RX9) (by decide) rfl rfl (Nat.le_of_ble_eq_true rfl) ?_
  intro p e s m below meth c X hw hr hlk ls hl
  have hl : lv_has ls 3 [(0, .ref (G.2.2 0)), (1, .int a1)] := hl
  unfold f_X9_isLaid
  have zl := hw.2.2.2.2.2.2.2.1
  refine lv_iconst (v := 0) X.1 X.2.1 dX9_isLaid_0 (by decide) ?_
  refine lv_istore_n (lv' := [(2, .int 0), (0, .ref (G.2.2 0)), (1, .int a1)]) X.1 X.2.1 dX9_isLaid_1 rfl hl (by decide) rfl (fun ls hl => ?_)
  have L1 : ∀ (n1 : Nat) (v1 : Int32) (v2 : Int32)  (hm1 : (16 - v2.toInt : Int).toNat < n1) (hi1_0 : 0 ≤ v2.toInt), ∀ ls : Array Slot, lv_has ls 3 [(0, .ref (G.2.2 0)), (1, .int v1), (2, .int v2)] → W p l e ({ frames := 0, cells := 0, slots := 0, locals := 0 } : Room) s m ([.ref (G.2.2 0), .int a1] : List Value).toArray below meth c s.heap [] 0 0 (TSi below ([.ref (G.2.2 0), .int a1] : List Value).toArray s (f_X9_isLaid_2 n1 M v1 v2)) (F0 m 2 ls []) := by
    intro n1
    induction n1 with
    | zero => intro v1 v2 hm1 hi1_0; exact absurd hm1 (by omega)
    | succ n1 ih1 =>
      intro v1 v2 hm1 hi1_0 ls hl
      rw [f_X9_isLaid_2]
      refine lv_iload_n X.1 X.2.1 dX9_isLaid_2 rfl (lv_at hl 2 rfl) ?_
      refine lv_aload_n X.1 X.2.1 dX9_isLaid_3 rfl (lv_at hl 0 rfl) ?_
      refine gF X hw (by decide) hm_MO rfl (by decide +kernel) 13 (by decide) (ref := "RankBenchModel") rfl (by decide +kernel) rfl dX9_isLaid_4 ?_
      refine bi_ge (tgt := 28) X dX9_isLaid_7 (by decide) (fun c1 => ?_) (fun c1 => ?_)
      · skip
        have t2 : (M.1 0 13).toInt ≤ v2.toInt := i_le c1
        refine lv_iconst (v := 0) X.1 X.2.1 dX9_isLaid_28 (by decide) ?_
        exact rZ X hr hlk rfl dX9_isLaid_29
      · skip
        have t3 : v2.toInt < (M.1 0 13).toInt := i_nle c1
        refine lv_aload_n X.1 X.2.1 dX9_isLaid_10 rfl (lv_at hl 0 rfl) ?_
        refine gF X hw (by decide) hm_MO rfl (by decide +kernel) 11 (by decide) (ref := "RankBenchModel") rfl (by decide +kernel) rfl dX9_isLaid_11 ?_
        refine lv_iload_n X.1 X.2.1 dX9_isLaid_14 rfl (lv_at hl 2 rfl) ?_
        refine aI X hw (by decide) hm_ml (vp_in_iff.mpr ⟨by omega, by omega⟩) dX9_isLaid_15 ?_
        refine lv_iload_n X.1 X.2.1 dX9_isLaid_16 rfl (lv_at hl 1 rfl) ?_
        refine bi_ne (tgt := 22) X dX9_isLaid_17 (by decide) (fun c4 => ?_) (fun c4 => ?_)
        · skip
          have t5 : ¬ (M.1 7 v2.toNatClampNeg).toInt = v1.toInt := i_ne c4
          refine lv_iinc (v := (v2 + 1)) (lv' := [(2, .int (v2 + 1)), (0, .ref (G.2.2 0)), (1, .int v1)]) X.1 X.2.1 dX9_isLaid_22 hl (k := 2) rfl rfl (by decide) rfl (fun ls hl => ?_)
          refine lv_goto (tgt := 2) X.1 X.2.1 dX9_isLaid_25 (by decide) ?_
          have q6 := inc_sp v2
          exact ih1 v1 (v2 + 1) (by omega) (by omega)  ls (lv_sub hl [1, 2, 0] rfl)
        · skip
          have t7 : (M.1 7 v2.toNatClampNeg).toInt = v1.toInt := i_eq c4
          refine lv_iconst (v := 1) X.1 X.2.1 dX9_isLaid_20 (by decide) ?_
          exact rZ X hr hlk rfl dX9_isLaid_21
  exact L1 17 a1 0 (by decide) (by first | omega | decide)  ls (lv_sub hl [1, 2, 0] rfl)

def f_X9_nextOf_2 : Nat → Mem → Int32 → Int32 → Int32 → Int32
  | 0, M, _, _, _ => (-1)
  | n1 + 1, M, v1, v2, v3 => bnd (f_X9_size M v1 v2) (fun r1 => if r1 ≤ v3 then (-1) else (bnd (f_X9_doc M v1 v2 v3) (fun r5 => bnd (f_X9_isLaid M r5) (fun r6 => if r6 = 0 then (bnd (f_X9_doc M v1 v2 v3) (fun r11 => r11)) else (f_X9_nextOf_2 n1 M v1 v2 (v3 + 1))))))
def f_X9_nextOf (M : Mem) (a1 : Int32) (a2 : Int32) : Int32 := f_X9_nextOf_2 17 M a1 a2 0
set_option maxRecDepth 100000 in
set_option maxHeartbeats 4000000 in
theorem c_X9_nextOf (l : Launch) (G : En) (A : Nat → Prop) (M : Mem) (a1 : Int32) (a2 : Int32) (hra : 0 ≤ a1.toInt ∧ a1.toInt < 4) (hqa : 0 ≤ a2.toInt ∧ a2.toInt < 8) : RdI false l yX9_nextOf wsX9_nextOf ({ frames := 1, cells := 0, slots := 0, locals := 23 }) G A M [.ref (G.2.2 0), .int a1, .int a2] (f_X9_nextOf M a1 a2) := by
  refine RdI.of (cc := cX9_nextOf) (maxL := 4) (ret := (some .int)) (own := RX9) (by decide) rfl rfl (Nat.le_of_ble_eq_true rfl) ?_
  intro p e s m below meth c X hw hr hlk ls hl
  have hl : lv_has ls 4 [(0, .ref (G.2.2 0)), (1, .int a1), (2, .int a2)] := hl
  unfold f_X9_nextOf
  refine lv_iconst (v := 0) X.1 X.2.1 dX9_nextOf_0 (by decide) ?_
  refine lv_istore_n (lv' := [(3, .int 0), (0, .ref (G.2.2 0)), (1, .int a1), (2, .int a2)]) X.1 X.2.1 dX9_nextOf_1 rfl hl (by decide) rfl (fun ls hl => ?_)
  have L1 : ∀ (n1 : Nat) (v1 : Int32) (v2 : Int32) (v3 : Int32)  (hm1 : (16 - v3.toInt : Int).toNat < n1) (hi1_0 : 0 ≤ v3.toInt) (hi1_1 : 0 ≤ v1.toInt ∧ v1.toInt < 4) (hi1_2 : 0 ≤ v2.toInt ∧ v2.toInt < 8), ∀ ls : Array Slot, lv_has ls 4 [(0, .ref (G.2.2 0)), (1, .int v1), (2, .int v2), (3, .int v3)] → W p l e ({ frames := 1, cells := 0, slots := 0, locals := 23 } : Room) s m ([.ref (G.2.2 0), .int a1, .int a2] : List Value).toArray below meth c s.heap [] 0 0 (TSi below ([.ref (G.2.2 0), .int a1, .int a2] : List Value).toArray s (f_X9_nextOf_2 n1 M v1 v2 v3)) (F0 m 2 ls []) := by
    intro n1
    induction n1 with
    | zero => intro v1 v2 v3 hm1 hi1_0 hi1_1 hi1_2; exact absurd hm1 (by omega)
    | succ n1 ih1 =>
      intro v1 v2 v3 hm1 hi1_0 hi1_1 hi1_2 ls hl
      rw [f_X9_nextOf_2]
      refine lv_iload_n X.1 X.2.1 dX9_nextOf_2 rfl (lv_at hl 3 rfl) ?_
      refine lv_aload_n X.1 X.2.1 dX9_nextOf_3 rfl (lv_at hl 0 rfl) ?_
      refine lv_iload_n X.1 X.2.1 dX9_nextOf_4 rfl (lv_at hl 1 rfl) ?_
      refine lv_iload_n X.1 X.2.1 dX9_nextOf_5 rfl (lv_at hl 2 rfl) ?_
      refine cVI [.int v1, .int v2] [.int v3] X hw (c_X9_size l G A M v1 v2 (by omega) (by omega)) (cwV 2 X.2.2.2.2 gX9_nextOf_X9_size rfl rfl rfl (by decide +kernel) ⟨Nat.le_of_ble_eq_true rfl, Nat.le_of_ble_eq_true rfl⟩) (hw.recv (by decide) hm_MO rfl) rfl rfl hl.1 (Nat.le_of_ble_eq_true rfl) dX9_nextOf_6 ?_
      refine tni (fun r1 er1 => ?_)
      have zr1 := g_X9_size hw.2.2.2.2 er1 (by omega) (by omega)
      refine bi_ge (tgt := 40) X dX9_nextOf_9 (by decide) (fun c2 => ?_) (fun c2 => ?_)
      · skip
        have t3 : r1.toInt ≤ v3.toInt := i_le c2
        refine lv_iconst (v := (-1)) X.1 X.2.1 dX9_nextOf_40 (by decide) ?_
        exact rI X hr hlk dX9_nextOf_41
      · skip
        have t4 : v3.toInt < r1.toInt := i_nle c2
        refine lv_aload_n X.1 X.2.1 dX9_nextOf_12 rfl (lv_at hl 0 rfl) ?_
        refine lv_aload_n X.1 X.2.1 dX9_nextOf_13 rfl (lv_at hl 0 rfl) ?_
        refine lv_iload_n X.1 X.2.1 dX9_nextOf_14 rfl (lv_at hl 1 rfl) ?_
        refine lv_iload_n X.1 X.2.1 dX9_nextOf_15 rfl (lv_at hl 2 rfl) ?_
        refine lv_iload_n X.1 X.2.1 dX9_nextOf_16 rfl (lv_at hl 3 rfl) ?_
        refine cVI [.int v1, .int v2, .int v3] [.ref (G.2.2 0)] X hw (c_X9_doc l G A M v1 v2 v3 (by omega) (by omega) (by omega)) (cwV 3 X.2.2.2.2 gX9_nextOf_X9_doc rfl rfl rfl (by decide +kernel) ⟨Nat.le_of_ble_eq_true rfl, Nat.le_of_ble_eq_true rfl⟩) (hw.recv (by decide) hm_MO rfl) rfl rfl hl.1 (Nat.le_of_ble_eq_true rfl) dX9_nextOf_17 ?_
        refine tni (fun r5 er5 => ?_)
        have zr5 := g_X9_doc hw.2.2.2.2 er5 (by omega) (by omega) (by omega)
        refine cVI [.int r5] [] X hw (c_X9_isLaid l G A M r5) (cwV 1 X.2.2.2.2 gX9_nextOf_X9_isLaid rfl rfl rfl (by decide +kernel) ⟨Nat.le_of_ble_eq_true rfl, Nat.le_of_ble_eq_true rfl⟩) (hw.recv (by decide) hm_MO rfl) rfl rfl hl.1 (Nat.le_of_ble_eq_true rfl) dX9_nextOf_20 ?_
        refine tni (fun r6 er6 => ?_)
        refine bz_ne (tgt := 34) X dX9_nextOf_23 (by decide) (fun c7 => ?_) (fun c7 => ?_)
        · skip
          have t8 : ¬ r6.toInt = 0 := i_ne c7
          refine lv_iinc (v := (v3 + 1)) (lv' := [(3, .int (v3 + 1)), (0, .ref (G.2.2 0)), (1, .int v1), (2, .int v2)]) X.1 X.2.1 dX9_nextOf_34 hl (k := 3) rfl rfl (by decide) rfl (fun ls hl => ?_)
          refine lv_goto (tgt := 2) X.1 X.2.1 dX9_nextOf_37 (by decide) ?_
          have q9 := inc_sp v3
          exact ih1 v1 v2 (v3 + 1) (by omega) (by omega) (by omega) (by omega)  ls (lv_sub hl [1, 2, 3, 0] rfl)
        · skip
          have t10 : r6.toInt = 0 := i_eq c7
          refine lv_aload_n X.1 X.2.1 dX9_nextOf_26 rfl (lv_at hl 0 rfl) ?_
          refine lv_iload_n X.1 X.2.1 dX9_nextOf_27 rfl (lv_at hl 1 rfl) ?_
          refine lv_iload_n X.1 X.2.1 dX9_nextOf_28 rfl (lv_at hl 2 rfl) ?_
          refine lv_iload_n X.1 X.2.1 dX9_nextOf_29 rfl (lv_at hl 3 rfl) ?_
          refine cVI [.int v1, .int v2, .int v3] [] X hw (c_X9_doc l G A M v1 v2 v3 (by omega) (by omega) (by omega)) (cwV 3 X.2.2.2.2 gX9_nextOf_X9_doc rfl rfl rfl (by decide +kernel) ⟨Nat.le_of_ble_eq_true rfl, Nat.le_of_ble_eq_true rfl⟩) (hw.recv (by decide) hm_MO rfl) rfl rfl hl.1 (Nat.le_of_ble_eq_true rfl) dX9_nextOf_30 ?_
          refine tni (fun r11 er11 => ?_)
          have zr11 := g_X9_doc hw.2.2.2.2 er11 (by omega) (by omega) (by omega)
          exact rI X hr hlk dX9_nextOf_33
  exact L1 17 a1 a2 0 (by decide) (by first | omega | decide) (by first | omega | decide) (by first | omega | decide)  ls (lv_sub hl [1, 2, 3, 0] rfl)
theorem g_X9_nextOf_2 {M : Mem} (h : okB false M) (v1 v2 : Int32) (hr : 0 ≤ v1.toInt ∧ v1.toInt < 4) (hq : 0 ≤ v2.toInt ∧ v2.toInt < 8) : ∀ (n : Nat) (v3 : Int32), 0 ≤ v3.toInt → -1 ≤ (f_X9_nextOf_2 n M v1 v2 v3).toInt ∧ (f_X9_nextOf_2 n M v1 v2 v3).toInt ≤ 23
  | 0, _, _ => by unfold f_X9_nextOf_2; decide
  | n + 1, v3, h0 => by
    rw [f_X9_nextOf_2]
    dsimp only [bnd]
    have z := g_X9_size h (s := f_X9_size M v1 v2) rfl hr hq
    split
    · decide
    · rename_i c
      have t := i_nle c
      have q := inc_sp v3
      split
      · have z2 := g_X9_doc h (s := f_X9_doc M v1 v2 v3) rfl hr hq (by omega)
        omega
      · exact g_X9_nextOf_2 h v1 v2 hr hq n _ (by omega)
theorem g_X9_nextOf {M : Mem} {s a1 a2 : Int32} (h : okB false M) (e : s = f_X9_nextOf M a1 a2) (hr : 0 ≤ a1.toInt ∧ a1.toInt < 4) (hq : 0 ≤ a2.toInt ∧ a2.toInt < 8) : -1 ≤ s.toInt ∧ s.toInt ≤ 23 := by
  subst e
  exact g_X9_nextOf_2 h a1 a2 hr hq _ _ (by decide)

def f_X9_layOne (M : Mem) (a1 : Int32) (a2 : Int32) (a3 : Int32) : Mem := bnd (f_X9_nextOf M a1 a2) (fun r1 => if r1 < 0 then M else (if (16 : Int32) ≤ (M.1 0 13) then M else (bnd (ui M 7 (M.1 0 13).toNatClampNeg r1) (fun M8 => bnd (ui M8 8 (M8.1 0 13).toNatClampNeg (vp_nar .boolean a3)) (fun M9 => bnd ((M9.1 0 13) + 1) (fun x10 => bnd (ui M9 0 13 x10) (fun M11 => M11)))))))
set_option maxRecDepth 100000 in
set_option maxHeartbeats 4000000 in
theorem c_X9_layOne (l : Launch) (G : En) (A : Nat → Prop) (M : Mem) (a1 : Int32) (a2 : Int32) (a3 : Int32) (hra : 0 ≤ a1.toInt ∧ a1.toInt < 4) (hqa : 0 ≤ a2.toInt ∧ a2.toInt < 8) : WrV false l yX9_layOne wsX9_layOne ({ frames := 2, cells := 0, slots := 0, locals := 46 }) G A M [.ref (G.2.2 0), .int a1, .int a2, .int a3] (f_X9_layOne M a1 a2 a3) := by
  refine WrV.of (cc := cX9_layOne) (maxL := 5) (ret := none) (own := RX9) (by decide) rfl rfl (Nat.le_of_ble_eq_true rfl) ?_
  intro p e s m below meth c X hw hr hlk ls hl hS
  have hl : lv_has ls 5 [(0, .ref (G.2.2 0)), (1, .int a1), (2, .int a2), (3, .int a3)] := hl
  unfold f_X9_layOne
  have zl := hw.2.2.2.2.2.2.2.1
  refine lv_aload_n X.1 X.2.1 dX9_layOne_0 rfl (lv_at hl 0 rfl) ?_
  refine lv_iload_n X.1 X.2.1 dX9_layOne_1 rfl (lv_at hl 1 rfl) ?_
  refine lv_iload_n X.1 X.2.1 dX9_layOne_2 rfl (lv_at hl 2 rfl) ?_
  refine cVI [.int a1, .int a2] [] X hw (c_X9_nextOf l G A M a1 a2 (by omega) (by omega)) (cwV 2 X.2.2.2.2 gX9_layOne_X9_nextOf rfl rfl rfl (by decide +kernel) ⟨Nat.le_of_ble_eq_true rfl, Nat.le_of_ble_eq_true rfl⟩) (hw.recv (by decide) hm_MO rfl) rfl rfl hl.1 (Nat.le_of_ble_eq_true rfl) dX9_layOne_3 ?_
  refine tni (fun r1 er1 => ?_)
  have zr1 := g_X9_nextOf hw.2.2.2.2 er1 (by omega) (by omega)
  refine lv_istore (lv' := [(4, .int r1), (0, .ref (G.2.2 0)), (1, .int a1), (2, .int a2), (3, .int a3)]) X.1 X.2.1 dX9_layOne_6 hl (by decide) rfl (fun ls hl => ?_)
  refine lv_iload X.1 X.2.1 dX9_layOne_8 (lv_at hl 0 rfl) ?_
  refine bz_lt (tgt := 53) X dX9_layOne_10 (by decide) (fun c2 => ?_) (fun c2 => ?_)
  · skip
    have t3 : r1.toInt < 0 := i_lt c2
    exact rV X hr hlk hw hS dX9_layOne_53
  · skip
    have t4 : 0 ≤ r1.toInt := i_nlt c2
    refine lv_aload_n X.1 X.2.1 dX9_layOne_13 rfl (lv_at hl 1 rfl) ?_
    refine gF X hw (by decide) hm_MO rfl (by decide +kernel) 13 (by decide) (ref := "RankBenchModel") rfl (by decide +kernel) rfl dX9_layOne_14 ?_
    refine lv_bipush (v := 16) X.1 X.2.1 dX9_layOne_17 (by decide) ?_
    refine bi_ge (tgt := 53) X dX9_layOne_19 (by decide) (fun c5 => ?_) (fun c5 => ?_)
    · skip
      have t6 : 16 ≤ (M.1 0 13).toInt := i_le c5
      exact rV X hr hlk hw hS dX9_layOne_53
    · skip
      have t7 : (M.1 0 13).toInt < 16 := i_nle c5
      refine lv_aload_n X.1 X.2.1 dX9_layOne_22 rfl (lv_at hl 1 rfl) ?_
      refine gF X hw (by decide) hm_MO rfl (by decide +kernel) 11 (by decide) (ref := "RankBenchModel") rfl (by decide +kernel) rfl dX9_layOne_23 ?_
      refine lv_aload_n X.1 X.2.1 dX9_layOne_26 rfl (lv_at hl 1 rfl) ?_
      refine gF X hw (by decide) hm_MO rfl (by decide +kernel) 13 (by decide) (ref := "RankBenchModel") rfl (by decide +kernel) rfl dX9_layOne_27 ?_
      refine lv_iload X.1 X.2.1 dX9_layOne_30 (lv_at hl 0 rfl) ?_
      refine sI X hw hS (ui M 7 (M.1 0 13).toNatClampNeg r1) (by decide) hm_ml (vp_in_iff.mpr ⟨by omega, by omega⟩) (by rw [hm_ml, ui_same]) (fun j hj => ui_ne hj) (fun j hj => rfl) (okM_ui hw.2.2.2.2 (Or.inr (Or.inr (Or.inl ⟨Or.inr rfl, by omega, by omega⟩)))) dX9_layOne_32 (fun H locs hw hS => ?_)
      refine tpb (fun M8 eM8 => ?_)
      rw [← eM8] at hw
      have h33 := congrArg Int32.toInt (show M8.1 0 13 = M.1 0 13 by rw [eM8, ui_ne (by decide)])
      refine lv_aload_n X.1 X.2.1 dX9_layOne_33 rfl (lv_at hl 1 rfl) ?_
      refine gF X hw (by decide) hm_MO rfl (by decide +kernel) 12 (by decide) (ref := "RankBenchModel") rfl (by decide +kernel) rfl dX9_layOne_34 ?_
      refine lv_aload_n X.1 X.2.1 dX9_layOne_37 rfl (lv_at hl 1 rfl) ?_
      refine gF X hw (by decide) hm_MO rfl (by decide +kernel) 13 (by decide) (ref := "RankBenchModel") rfl (by decide +kernel) rfl dX9_layOne_38 ?_
      refine lv_iload_n X.1 X.2.1 dX9_layOne_41 rfl (lv_at hl 4 rfl) ?_
      refine sZ X hw hS (ui M8 8 (M8.1 0 13).toNatClampNeg (vp_nar .boolean a3)) (by decide) hm_my (vp_in_iff.mpr ⟨by omega, by omega⟩) (by rw [hm_my, ui_same]) (fun j hj => ui_ne hj) (fun j hj => rfl) (okM_ui hw.2.2.2.2 (Or.inl (by decide))) dX9_layOne_42 (fun H locs hw hS => ?_)
      refine tpb (fun M9 eM9 => ?_)
      rw [← eM9] at hw
      have h43 : (M9.1 0 13).toInt = (M.1 0 13).toInt := by rw [eM9, ui_ne (by decide)]; exact h33
      refine lv_aload_n X.1 X.2.1 dX9_layOne_43 rfl (lv_at hl 1 rfl) ?_
      refine lv_dup X.1 X.2.1 dX9_layOne_44 rfl ?_
      refine gF X hw (by decide) hm_MO rfl (by decide +kernel) 13 (by decide) (ref := "RankBenchModel") rfl (by decide +kernel) rfl dX9_layOne_45 ?_
      refine lv_iconst (v := 1) X.1 X.2.1 dX9_layOne_48 (by decide) ?_
      refine lv_iadd X.1 X.2.1 dX9_layOne_49 ?_
      refine tni (fun x10 ex10 => ?_)
      have q50 := inc_sp (M9.1 0 13)
      rw [← ex10] at q50
      refine pF X hw hS (ui M9 0 13 x10) (by decide) hm_MO rfl (by decide +kernel) tyX9 tyX9_ok nmX9 13 (by decide) (ref := "RankBenchModel") rfl (by decide +kernel) rfl rfl rfl (Nat.le_of_ble_eq_true rfl) (by rw [hm_MO, ui_same]; rfl) (fun j hj => ui_ne hj) (fun j hj => rfl) (okM_ui hw.2.2.2.2 (Or.inr (Or.inr (Or.inr (Or.inr ⟨rfl, rfl, by omega, by omega⟩))))) dX9_layOne_50 (fun H locs hw hS => ?_)
      refine tpb (fun M11 eM11 => ?_)
      rw [← eM11] at hw
      exact rV X hr hlk hw hS dX9_layOne_53
theorem il_congr {M M' : Mem} (h7 : M'.1 7 = M.1 7) (h13 : M'.1 0 13 = M.1 0 13) (d : Int32) : ∀ (n : Nat) (v : Int32), f_X9_isLaid_2 n M' d v = f_X9_isLaid_2 n M d v
  | 0, _ => rfl
  | n + 1, v => by
    rw [f_X9_isLaid_2, f_X9_isLaid_2, h7, h13, il_congr h7 h13 d n]
theorem nx_congr2 {M M' : Mem} (h2 : M'.1 2 = M.1 2) (h3 : M'.1 3 = M.1 3) (h7 : M'.1 7 = M.1 7) (h13 : M'.1 0 13 = M.1 0 13) (r q : Int32) : ∀ (n : Nat) (v : Int32), f_X9_nextOf_2 n M' r q v = f_X9_nextOf_2 n M r q v
  | 0, _ => rfl
  | n + 1, v => by
    have e1 : f_X9_size M' r q = f_X9_size M r q := by unfold f_X9_size; rw [h3]
    have e2 : f_X9_doc M' r q v = f_X9_doc M r q v := by unfold f_X9_doc; rw [h2]
    have e3 : ∀ d, f_X9_isLaid M' d = f_X9_isLaid M d := fun d => il_congr h7 h13 d _ _
    rw [f_X9_nextOf_2, f_X9_nextOf_2, e1, e2]
    simp only [e3, nx_congr2 h2 h3 h7 h13 r q n]
theorem nx_congr {M M' : Mem} (h2 : M'.1 2 = M.1 2) (h3 : M'.1 3 = M.1 3) (h7 : M'.1 7 = M.1 7) (h13 : M'.1 0 13 = M.1 0 13) (r q : Int32) : f_X9_nextOf M' r q = f_X9_nextOf M r q := nx_congr2 h2 h3 h7 h13 r q _ _
theorem lo_no {M : Mem} {r q a : Int32} (h : f_X9_nextOf M r q < 0) : f_X9_layOne M r q a = M := by
  unfold f_X9_layOne
  dsimp only [bnd]
  rw [if_pos h]
theorem lo_up {M : Mem} {r q a : Int32} (h0 : 0 ≤ (M.1 0 13).toInt) (h1 : (M.1 0 13).toInt < 16) (h : ¬ f_X9_nextOf M r q < 0) : ((f_X9_layOne M r q a).1 0 13).toInt = (M.1 0 13).toInt + 1 := by
  unfold f_X9_layOne
  dsimp only [bnd]
  have c : ¬ (16 : Int32) ≤ M.1 0 13 := fun z => by have t : 16 ≤ (M.1 0 13).toInt := i_le z; omega
  rw [if_neg h, if_neg c, ui_same, pk_us, ui_ne (by decide), ui_ne (by decide)]
  have q := inc_sp (M.1 0 13)
  omega
theorem lo_ge {M : Mem} {r q a : Int32} (h0 : 0 ≤ (M.1 0 13).toInt) : (M.1 0 13).toInt ≤ ((f_X9_layOne M r q a).1 0 13).toInt := by
  by_cases h : f_X9_nextOf M r q < 0
  · rw [lo_no h]; exact Int.le_refl _
  · by_cases c : (16 : Int32) ≤ M.1 0 13
    · have e : f_X9_layOne M r q a = M := by
        unfold f_X9_layOne
        dsimp only [bnd]
        rw [if_neg h, if_pos c]
      rw [e]; exact Int.le_refl _
    · have t : (M.1 0 13).toInt < 16 := i_nle c
      rw [lo_up h0 t h]; omega
theorem ly_up {M : Mem} {x y q a b : Int32} (h0 : 0 ≤ (M.1 0 13).toInt) (h1 : (M.1 0 13).toInt < 16) (hn : 0 ≤ (f_X9_nextOf M x q).toInt ∨ 0 ≤ (f_X9_nextOf M y q).toInt) : (M.1 0 13).toInt < ((f_X9_layOne (f_X9_layOne (f_X9_draw M).2 x q a) y q b).1 0 13).toInt := by
  have d2 : (f_X9_draw M).2.1 2 = M.1 2 := ui_ne (by decide)
  have d3 : (f_X9_draw M).2.1 3 = M.1 3 := ui_ne (by decide)
  have d7 : (f_X9_draw M).2.1 7 = M.1 7 := ui_ne (by decide)
  have d13 : (f_X9_draw M).2.1 0 13 = M.1 0 13 := by
    show (ui M 0 10 _).1 0 13 = _
    rw [ui_same, pk_un (by decide)]
  have nz : ∀ {z : Int32}, 0 ≤ z.toInt → ¬ z < 0 := fun {z} h1 h2 => by have a2 : z.toInt < 0 := i_lt h2; omega
  by_cases h : f_X9_nextOf (f_X9_draw M).2 x q < 0
  · rw [lo_no h]
    rw [nx_congr d2 d3 d7 d13] at h
    rcases hn with g | g
    · exact absurd h (nz g)
    · rw [lo_up (by rw [d13]; exact h0) (by rw [d13]; exact h1) (by rw [nx_congr d2 d3 d7 d13]; exact nz g), d13]
      omega
  · have e := lo_up (a := a) (by rw [d13]; exact h0) (by rw [d13]; exact h1) h
    rw [d13] at e
    have e2 := lo_ge (M := f_X9_layOne (f_X9_draw M).2 x q a) (r := y) (q := q) (a := b) (by omega)
    omega
theorem lay_dn {a b : Int} {n : Nat} (hm : (16 - a : Int).toNat < n + 1) (h1 : a < 16) (h : a < b) : (16 - b : Int).toNat < n := by omega

def f_X9_lay_11 : Nat → Mem → Int32 → Int32 → Int32 → Mem
  | 0, M, _, _, _ => M
  | n1 + 1, M, v1, v2, v3 => if (16 : Int32) ≤ (M.1 0 13) then M else (bnd (f_X9_nextOf M v1 v3) (fun r6 => if (0 : Int32) ≤ r6 then (bnd (f_X9_draw M) (fun p9 => if (p9.1 - p9.1 / 2 * 2) = 0 then (bnd (f_X9_layOne p9.2 v1 v3 0) (fun M20 => bnd (f_X9_layOne M20 v2 v3 1) (fun M22 => f_X9_lay_11 n1 M22 v1 v2 v3))) else (bnd (f_X9_layOne p9.2 v2 v3 1) (fun M14 => bnd (f_X9_layOne M14 v1 v3 0) (fun M16 => f_X9_lay_11 n1 M16 v1 v2 v3))))) else (bnd (f_X9_nextOf M v2 v3) (fun r24 => if r24 < 0 then M else (bnd (f_X9_draw M) (fun p28 => if (p28.1 - p28.1 / 2 * 2) = 0 then (bnd (f_X9_layOne p28.2 v1 v3 0) (fun M39 => bnd (f_X9_layOne M39 v2 v3 1) (fun M41 => f_X9_lay_11 n1 M41 v1 v2 v3))) else (bnd (f_X9_layOne p28.2 v2 v3 1) (fun M33 => bnd (f_X9_layOne M33 v1 v3 0) (fun M35 => f_X9_lay_11 n1 M35 v1 v2 v3)))))))))
def f_X9_lay (M : Mem) (a1 : Int32) (a2 : Int32) (a3 : Int32) (a4 : Int32) : Mem := bnd (ui M 0 10 a4) (fun M1 => bnd (ui M1 0 13 0) (fun M2 => f_X9_lay_11 ((16 - (M2.1 0 13).toInt : Int).toNat + 1) M2 a1 a2 a3))
set_option maxRecDepth 100000 in
set_option maxHeartbeats 4000000 in
theorem c_X9_lay (l : Launch) (G : En) (A : Nat → Prop) (M : Mem) (a1 : Int32) (a2 : Int32) (a3 : Int32) (a4 : Int32) (hra : 0 ≤ a1.toInt ∧ a1.toInt < 4) (hrb : 0 ≤ a2.toInt ∧ a2.toInt < 4) (hqa : 0 ≤ a3.toInt ∧ a3.toInt < 8) : WrV false l yX9_lay wsX9_lay ({ frames := 3, cells := 0, slots := 0, locals := 70 }) G A M [.ref (G.2.2 0), .int a1, .int a2, .int a3, .int a4] (f_X9_lay M a1 a2 a3 a4) := by
  refine WrV.of (cc := cX9_lay) (maxL := 6) (ret := none) (own := RX9) (by decide) rfl rfl (Nat.le_of_ble_eq_true rfl) ?_
  intro p e s m below meth c X hw hr hlk ls hl hS
  have hl : lv_has ls 6 [(0, .ref (G.2.2 0)), (1, .int a1), (2, .int a2), (3, .int a3), (4, .int a4)] := hl
  unfold f_X9_lay
  refine lv_aload_n X.1 X.2.1 dX9_lay_0 rfl (lv_at hl 0 rfl) ?_
  refine lv_iload X.1 X.2.1 dX9_lay_1 (lv_at hl 4 rfl) ?_
  refine pF X hw hS (ui M 0 10 a4) (by decide) hm_MO rfl (by decide +kernel) tyX9 tyX9_ok nmX9 10 (by decide) (ref := "RankBenchModel") rfl (by decide +kernel) rfl rfl rfl (Nat.le_of_ble_eq_true rfl) (by rw [hm_MO, ui_same]; rfl) (fun j hj => ui_ne hj) (fun j hj => rfl) (okM_ui hw.2.2.2.2 (Or.inr (Or.inr (Or.inr (Or.inl (by decide)))))) dX9_lay_3 (fun H locs hw hS => ?_)
  refine tpb (fun M1 eM1 => ?_)
  rw [← eM1] at hw
  refine lv_aload_n X.1 X.2.1 dX9_lay_6 rfl (lv_at hl 0 rfl) ?_
  refine lv_iconst (v := 0) X.1 X.2.1 dX9_lay_7 (by decide) ?_
  refine pF X hw hS (ui M1 0 13 0) (by decide) hm_MO rfl (by decide +kernel) tyX9 tyX9_ok nmX9 13 (by decide) (ref := "RankBenchModel") rfl (by decide +kernel) rfl rfl rfl (Nat.le_of_ble_eq_true rfl) (by rw [hm_MO, ui_same]; rfl) (fun j hj => ui_ne hj) (fun j hj => rfl) (okM_ui hw.2.2.2.2 (Or.inr (Or.inr (Or.inr (Or.inr ⟨rfl, rfl, by decide, by decide⟩))))) dX9_lay_8 (fun H locs hw hS => ?_)
  refine tpb (fun M2 eM2 => ?_)
  rw [← eM2] at hw
  have L1 : ∀ (n1 : Nat) (M : Mem) (v1 : Int32) (v2 : Int32) (v3 : Int32)  (hm1 : (16 - (M.1 0 13).toInt : Int).toNat < n1) (hi1_0 : 0 ≤ v1.toInt ∧ v1.toInt < 4) (hi1_1 : 0 ≤ v2.toInt ∧ v2.toInt < 4) (hi1_2 : 0 ≤ v3.toInt ∧ v3.toInt < 8) (hi1_3 : 0 ≤ (M.1 0 13).toInt), ∀ (H : Heap) (locs : List Loc), WD false G A M s H → va_S A s.heap H locs → ∀ ls : Array Slot, lv_has ls 6 [(0, .ref (G.2.2 0)), (1, .int v1), (2, .int v2), (3, .int v3)] → W p l e ({ frames := 3, cells := 0, slots := 0, locals := 70 } : Room) s m ([.ref (G.2.2 0), .int a1, .int a2, .int a3, .int a4] : List Value).toArray below meth c H locs 0 0 (TQv false G A below ([.ref (G.2.2 0), .int a1, .int a2, .int a3, .int a4] : List Value).toArray s (f_X9_lay_11 n1 M v1 v2 v3)) (F0 m 11 ls []) := by
    intro n1
    induction n1 with
    | zero => intro M v1 v2 v3 hm1 hi1_0 hi1_1 hi1_2 hi1_3; exact absurd hm1 (by omega)
    | succ n1 ih1 =>
      intro M v1 v2 v3 hm1 hi1_0 hi1_1 hi1_2 hi1_3 H locs hw hS ls hl
      rw [f_X9_lay_11]
      refine lv_aload_n X.1 X.2.1 dX9_lay_11 rfl (lv_at hl 0 rfl) ?_
      refine gF X hw (by decide) hm_MO rfl (by decide +kernel) 13 (by decide) (ref := "RankBenchModel") rfl (by decide +kernel) rfl dX9_lay_12 ?_
      refine lv_bipush (v := 16) X.1 X.2.1 dX9_lay_15 (by decide) ?_
      refine bi_ge (tgt := 99) X dX9_lay_17 (by decide) (fun c3 => ?_) (fun c3 => ?_)
      · skip
        have t4 : 16 ≤ (M.1 0 13).toInt := i_le c3
        exact rV X hr hlk hw hS dX9_lay_99
      · skip
        have t5 : (M.1 0 13).toInt < 16 := i_nle c3
        refine lv_aload_n X.1 X.2.1 dX9_lay_20 rfl (lv_at hl 0 rfl) ?_
        refine lv_iload_n X.1 X.2.1 dX9_lay_21 rfl (lv_at hl 1 rfl) ?_
        refine lv_iload_n X.1 X.2.1 dX9_lay_22 rfl (lv_at hl 3 rfl) ?_
        refine cVI [.int v1, .int v3] [] X hw (c_X9_nextOf l G A M v1 v3 (by omega) (by omega)) (cwV 2 X.2.2.2.2 gX9_lay_X9_nextOf rfl rfl rfl (by decide +kernel) ⟨Nat.le_of_ble_eq_true rfl, Nat.le_of_ble_eq_true rfl⟩) (hw.recv (by decide) hm_MO rfl) rfl rfl hl.1 (Nat.le_of_ble_eq_true rfl) dX9_lay_23 ?_
        refine tni (fun r6 er6 => ?_)
        have zr6 := g_X9_nextOf hw.2.2.2.2 er6 (by omega) (by omega)
        refine bz_ge (tgt := 38) X dX9_lay_26 (by decide) (fun c7 => ?_) (fun c7 => ?_)
        · skip
          have t8 : 0 ≤ r6.toInt := i_le c7
          refine lv_aload_n X.1 X.2.1 dX9_lay_38 rfl (lv_at hl 0 rfl) ?_
          refine cVJ [] [] X hw hS (c_X9_draw l G A M ) (cwV 0 X.2.2.2.2 gX9_lay_X9_draw rfl rfl rfl (by decide +kernel) ⟨Nat.le_of_ble_eq_true rfl, Nat.le_of_ble_eq_true rfl⟩) (hw.recv (by decide) hm_MO rfl) rfl rfl hl.1 (Nat.le_of_ble_eq_true rfl) dX9_lay_39 (fun H locs hw hS => ?_)
          refine tpb (fun p9 ep9 => ?_)
          rw [← ep9] at hw
          rw [← ep9]
          refine lv_iconst (v := 2) X.1 X.2.1 dX9_lay_42 (by decide) ?_
          refine lv_irem X.1 X.2.1 dX9_lay_43 (by first | decide | assumption | omega) ?_
          refine bz_ne (tgt := 51) X dX9_lay_44 (by decide) (fun c10 => ?_) (fun c10 => ?_)
          · skip
            have t11 : ¬ (p9.1 - p9.1 / 2 * 2).toInt = 0 := i_ne c10
            refine lv_iconst (v := 0) X.1 X.2.1 dX9_lay_51 (by decide) ?_
            refine lv_istore (lv' := [(5, .int 0), (0, .ref (G.2.2 0)), (1, .int v1), (2, .int v2), (3, .int v3)]) X.1 X.2.1 dX9_lay_52 hl (by decide) rfl (fun ls hl => ?_)
            refine lv_aload_n X.1 X.2.1 dX9_lay_54 rfl (lv_at hl 1 rfl) ?_
            refine lv_iload X.1 X.2.1 dX9_lay_55 (lv_at hl 0 rfl) ?_
            refine lv_if_eq (tgt := 64) X.1 X.2.1 dX9_lay_57 (by decide) (fun _ => ?_) (fun c12 => absurd c12 (by decide))
            refine lv_iload_n X.1 X.2.1 dX9_lay_64 rfl (lv_at hl 3 rfl) ?_
            refine lv_iload_n X.1 X.2.1 dX9_lay_65 rfl (lv_at hl 4 rfl) ?_
            refine lv_iload X.1 X.2.1 dX9_lay_66 (lv_at hl 0 rfl) ?_
            refine lv_if_ne (tgt := 75) X.1 X.2.1 dX9_lay_68 (by decide) (fun c13 => absurd c13 (by decide)) (fun _ => ?_)
            refine lv_iconst (v := 1) X.1 X.2.1 dX9_lay_71 (by decide) ?_
            refine lv_goto (tgt := 76) X.1 X.2.1 dX9_lay_72 (by decide) ?_
            refine cVW [.int v2, .int v3, .int 1] [] X hw hS (c_X9_layOne l G A p9.2 v2 v3 1 (by omega) (by omega)) (cwV 3 X.2.2.2.2 gX9_lay_X9_layOne rfl rfl rfl (by decide +kernel) ⟨Nat.le_of_ble_eq_true rfl, Nat.le_of_ble_eq_true rfl⟩) (hw.recv (by decide) hm_MO rfl) rfl rfl hl.1 (Nat.le_of_ble_eq_true rfl) dX9_lay_76 (fun H locs hw hS => ?_)
            refine tpb (fun M14 eM14 => ?_)
            rw [← eM14] at hw
            refine lv_aload_n X.1 X.2.1 dX9_lay_79 rfl (lv_at hl 1 rfl) ?_
            refine lv_iload X.1 X.2.1 dX9_lay_80 (lv_at hl 0 rfl) ?_
            refine lv_if_eq (tgt := 89) X.1 X.2.1 dX9_lay_82 (by decide) (fun _ => ?_) (fun c15 => absurd c15 (by decide))
            refine lv_iload_n X.1 X.2.1 dX9_lay_89 rfl (lv_at hl 2 rfl) ?_
            refine lv_iload_n X.1 X.2.1 dX9_lay_90 rfl (lv_at hl 4 rfl) ?_
            refine lv_iload X.1 X.2.1 dX9_lay_91 (lv_at hl 0 rfl) ?_
            refine cVW [.int v1, .int v3, .int 0] [] X hw hS (c_X9_layOne l G A M14 v1 v3 0 (by omega) (by omega)) (cwV 3 X.2.2.2.2 gX9_lay_X9_layOne rfl rfl rfl (by decide +kernel) ⟨Nat.le_of_ble_eq_true rfl, Nat.le_of_ble_eq_true rfl⟩) (hw.recv (by decide) hm_MO rfl) rfl rfl hl.1 (Nat.le_of_ble_eq_true rfl) dX9_lay_93 (fun H locs hw hS => ?_)
            refine tpb (fun M16 eM16 => ?_)
            rw [← eM16] at hw
            refine lv_goto (tgt := 11) X.1 X.2.1 dX9_lay_96 (by decide) ?_
            exact ih1 M16 v1 v2 v3 (by subst_vars; exact lay_dn (by assumption) (by assumption) (ly_up (by assumption) (by assumption) (by first | exact Or.inl (by assumption) | exact Or.inr (by assumption)))) (by omega) (by omega) (by omega) hw.2.2.2.2.2.2.2.1.1 _ _ hw hS ls (lv_sub hl [1, 2, 3, 4] rfl)
          · skip
            have t17 : (p9.1 - p9.1 / 2 * 2).toInt = 0 := i_eq c10
            refine lv_iconst (v := 1) X.1 X.2.1 dX9_lay_47 (by decide) ?_
            refine lv_goto (tgt := 52) X.1 X.2.1 dX9_lay_48 (by decide) ?_
            refine lv_istore (lv' := [(5, .int 1), (0, .ref (G.2.2 0)), (1, .int v1), (2, .int v2), (3, .int v3)]) X.1 X.2.1 dX9_lay_52 hl (by decide) rfl (fun ls hl => ?_)
            refine lv_aload_n X.1 X.2.1 dX9_lay_54 rfl (lv_at hl 1 rfl) ?_
            refine lv_iload X.1 X.2.1 dX9_lay_55 (lv_at hl 0 rfl) ?_
            refine lv_if_eq (tgt := 64) X.1 X.2.1 dX9_lay_57 (by decide) (fun c18 => absurd c18 (by decide)) (fun _ => ?_)
            refine lv_iload_n X.1 X.2.1 dX9_lay_60 rfl (lv_at hl 2 rfl) ?_
            refine lv_goto (tgt := 65) X.1 X.2.1 dX9_lay_61 (by decide) ?_
            refine lv_iload_n X.1 X.2.1 dX9_lay_65 rfl (lv_at hl 4 rfl) ?_
            refine lv_iload X.1 X.2.1 dX9_lay_66 (lv_at hl 0 rfl) ?_
            refine lv_if_ne (tgt := 75) X.1 X.2.1 dX9_lay_68 (by decide) (fun _ => ?_) (fun c19 => absurd c19 (by decide))
            refine lv_iconst (v := 0) X.1 X.2.1 dX9_lay_75 (by decide) ?_
            refine cVW [.int v1, .int v3, .int 0] [] X hw hS (c_X9_layOne l G A p9.2 v1 v3 0 (by omega) (by omega)) (cwV 3 X.2.2.2.2 gX9_lay_X9_layOne rfl rfl rfl (by decide +kernel) ⟨Nat.le_of_ble_eq_true rfl, Nat.le_of_ble_eq_true rfl⟩) (hw.recv (by decide) hm_MO rfl) rfl rfl hl.1 (Nat.le_of_ble_eq_true rfl) dX9_lay_76 (fun H locs hw hS => ?_)
            refine tpb (fun M20 eM20 => ?_)
            rw [← eM20] at hw
            refine lv_aload_n X.1 X.2.1 dX9_lay_79 rfl (lv_at hl 1 rfl) ?_
            refine lv_iload X.1 X.2.1 dX9_lay_80 (lv_at hl 0 rfl) ?_
            refine lv_if_eq (tgt := 89) X.1 X.2.1 dX9_lay_82 (by decide) (fun c21 => absurd c21 (by decide)) (fun _ => ?_)
            refine lv_iload_n X.1 X.2.1 dX9_lay_85 rfl (lv_at hl 3 rfl) ?_
            refine lv_goto (tgt := 90) X.1 X.2.1 dX9_lay_86 (by decide) ?_
            refine lv_iload_n X.1 X.2.1 dX9_lay_90 rfl (lv_at hl 4 rfl) ?_
            refine lv_iload X.1 X.2.1 dX9_lay_91 (lv_at hl 0 rfl) ?_
            refine cVW [.int v2, .int v3, .int 1] [] X hw hS (c_X9_layOne l G A M20 v2 v3 1 (by omega) (by omega)) (cwV 3 X.2.2.2.2 gX9_lay_X9_layOne rfl rfl rfl (by decide +kernel) ⟨Nat.le_of_ble_eq_true rfl, Nat.le_of_ble_eq_true rfl⟩) (hw.recv (by decide) hm_MO rfl) rfl rfl hl.1 (Nat.le_of_ble_eq_true rfl) dX9_lay_93 (fun H locs hw hS => ?_)
            refine tpb (fun M22 eM22 => ?_)
            rw [← eM22] at hw
            refine lv_goto (tgt := 11) X.1 X.2.1 dX9_lay_96 (by decide) ?_
            exact ih1 M22 v1 v2 v3 (by subst_vars; exact lay_dn (by assumption) (by assumption) (ly_up (by assumption) (by assumption) (by first | exact Or.inl (by assumption) | exact Or.inr (by assumption)))) (by omega) (by omega) (by omega) hw.2.2.2.2.2.2.2.1.1 _ _ hw hS ls (lv_sub hl [1, 2, 3, 4] rfl)
        · skip
          have t23 : r6.toInt < 0 := i_nle c7
          refine lv_aload_n X.1 X.2.1 dX9_lay_29 rfl (lv_at hl 0 rfl) ?_
          refine lv_iload_n X.1 X.2.1 dX9_lay_30 rfl (lv_at hl 2 rfl) ?_
          refine lv_iload_n X.1 X.2.1 dX9_lay_31 rfl (lv_at hl 3 rfl) ?_
          refine cVI [.int v2, .int v3] [] X hw (c_X9_nextOf l G A M v2 v3 (by omega) (by omega)) (cwV 2 X.2.2.2.2 gX9_lay_X9_nextOf rfl rfl rfl (by decide +kernel) ⟨Nat.le_of_ble_eq_true rfl, Nat.le_of_ble_eq_true rfl⟩) (hw.recv (by decide) hm_MO rfl) rfl rfl hl.1 (Nat.le_of_ble_eq_true rfl) dX9_lay_32 ?_
          refine tni (fun r24 er24 => ?_)
          have zr24 := g_X9_nextOf hw.2.2.2.2 er24 (by omega) (by omega)
          refine bz_lt (tgt := 99) X dX9_lay_35 (by decide) (fun c25 => ?_) (fun c25 => ?_)
          · skip
            have t26 : r24.toInt < 0 := i_lt c25
            exact rV X hr hlk hw hS dX9_lay_99
          · skip
            have t27 : 0 ≤ r24.toInt := i_nlt c25
            refine lv_aload_n X.1 X.2.1 dX9_lay_38 rfl (lv_at hl 0 rfl) ?_
            refine cVJ [] [] X hw hS (c_X9_draw l G A M ) (cwV 0 X.2.2.2.2 gX9_lay_X9_draw rfl rfl rfl (by decide +kernel) ⟨Nat.le_of_ble_eq_true rfl, Nat.le_of_ble_eq_true rfl⟩) (hw.recv (by decide) hm_MO rfl) rfl rfl hl.1 (Nat.le_of_ble_eq_true rfl) dX9_lay_39 (fun H locs hw hS => ?_)
            refine tpb (fun p28 ep28 => ?_)
            rw [← ep28] at hw
            rw [← ep28]
            refine lv_iconst (v := 2) X.1 X.2.1 dX9_lay_42 (by decide) ?_
            refine lv_irem X.1 X.2.1 dX9_lay_43 (by first | decide | assumption | omega) ?_
            refine bz_ne (tgt := 51) X dX9_lay_44 (by decide) (fun c29 => ?_) (fun c29 => ?_)
            · skip
              have t30 : ¬ (p28.1 - p28.1 / 2 * 2).toInt = 0 := i_ne c29
              refine lv_iconst (v := 0) X.1 X.2.1 dX9_lay_51 (by decide) ?_
              refine lv_istore (lv' := [(5, .int 0), (0, .ref (G.2.2 0)), (1, .int v1), (2, .int v2), (3, .int v3)]) X.1 X.2.1 dX9_lay_52 hl (by decide) rfl (fun ls hl => ?_)
              refine lv_aload_n X.1 X.2.1 dX9_lay_54 rfl (lv_at hl 1 rfl) ?_
              refine lv_iload X.1 X.2.1 dX9_lay_55 (lv_at hl 0 rfl) ?_
              refine lv_if_eq (tgt := 64) X.1 X.2.1 dX9_lay_57 (by decide) (fun _ => ?_) (fun c31 => absurd c31 (by decide))
              refine lv_iload_n X.1 X.2.1 dX9_lay_64 rfl (lv_at hl 3 rfl) ?_
              refine lv_iload_n X.1 X.2.1 dX9_lay_65 rfl (lv_at hl 4 rfl) ?_
              refine lv_iload X.1 X.2.1 dX9_lay_66 (lv_at hl 0 rfl) ?_
              refine lv_if_ne (tgt := 75) X.1 X.2.1 dX9_lay_68 (by decide) (fun c32 => absurd c32 (by decide)) (fun _ => ?_)
              refine lv_iconst (v := 1) X.1 X.2.1 dX9_lay_71 (by decide) ?_
              refine lv_goto (tgt := 76) X.1 X.2.1 dX9_lay_72 (by decide) ?_
              refine cVW [.int v2, .int v3, .int 1] [] X hw hS (c_X9_layOne l G A p28.2 v2 v3 1 (by omega) (by omega)) (cwV 3 X.2.2.2.2 gX9_lay_X9_layOne rfl rfl rfl (by decide +kernel) ⟨Nat.le_of_ble_eq_true rfl, Nat.le_of_ble_eq_true rfl⟩) (hw.recv (by decide) hm_MO rfl) rfl rfl hl.1 (Nat.le_of_ble_eq_true rfl) dX9_lay_76 (fun H locs hw hS => ?_)
              refine tpb (fun M33 eM33 => ?_)
              rw [← eM33] at hw
              refine lv_aload_n X.1 X.2.1 dX9_lay_79 rfl (lv_at hl 1 rfl) ?_
              refine lv_iload X.1 X.2.1 dX9_lay_80 (lv_at hl 0 rfl) ?_
              refine lv_if_eq (tgt := 89) X.1 X.2.1 dX9_lay_82 (by decide) (fun _ => ?_) (fun c34 => absurd c34 (by decide))
              refine lv_iload_n X.1 X.2.1 dX9_lay_89 rfl (lv_at hl 2 rfl) ?_
              refine lv_iload_n X.1 X.2.1 dX9_lay_90 rfl (lv_at hl 4 rfl) ?_
              refine lv_iload X.1 X.2.1 dX9_lay_91 (lv_at hl 0 rfl) ?_
              refine cVW [.int v1, .int v3, .int 0] [] X hw hS (c_X9_layOne l G A M33 v1 v3 0 (by omega) (by omega)) (cwV 3 X.2.2.2.2 gX9_lay_X9_layOne rfl rfl rfl (by decide +kernel) ⟨Nat.le_of_ble_eq_true rfl, Nat.le_of_ble_eq_true rfl⟩) (hw.recv (by decide) hm_MO rfl) rfl rfl hl.1 (Nat.le_of_ble_eq_true rfl) dX9_lay_93 (fun H locs hw hS => ?_)
              refine tpb (fun M35 eM35 => ?_)
              rw [← eM35] at hw
              refine lv_goto (tgt := 11) X.1 X.2.1 dX9_lay_96 (by decide) ?_
              exact ih1 M35 v1 v2 v3 (by subst_vars; exact lay_dn (by assumption) (by assumption) (ly_up (by assumption) (by assumption) (by first | exact Or.inl (by assumption) | exact Or.inr (by assumption)))) (by omega) (by omega) (by omega) hw.2.2.2.2.2.2.2.1.1 _ _ hw hS ls (lv_sub hl [1, 2, 3, 4] rfl)
            · skip
              have t36 : (p28.1 - p28.1 / 2 * 2).toInt = 0 := i_eq c29
              refine lv_iconst (v := 1) X.1 X.2.1 dX9_lay_47 (by decide) ?_
              refine lv_goto (tgt := 52) X.1 X.2.1 dX9_lay_48 (by decide) ?_
              refine lv_istore (lv' := [(5, .int 1), (0, .ref (G.2.2 0)), (1, .int v1), (2, .int v2), (3, .int v3)]) X.1 X.2.1 dX9_lay_52 hl (by decide) rfl (fun ls hl => ?_)
              refine lv_aload_n X.1 X.2.1 dX9_lay_54 rfl (lv_at hl 1 rfl) ?_
              refine lv_iload X.1 X.2.1 dX9_lay_55 (lv_at hl 0 rfl) ?_
              refine lv_if_eq (tgt := 64) X.1 X.2.1 dX9_lay_57 (by decide) (fun c37 => absurd c37 (by decide)) (fun _ => ?_)
              refine lv_iload_n X.1 X.2.1 dX9_lay_60 rfl (lv_at hl 2 rfl) ?_
              refine lv_goto (tgt := 65) X.1 X.2.1 dX9_lay_61 (by decide) ?_
              refine lv_iload_n X.1 X.2.1 dX9_lay_65 rfl (lv_at hl 4 rfl) ?_
              refine lv_iload X.1 X.2.1 dX9_lay_66 (lv_at hl 0 rfl) ?_
              refine lv_if_ne (tgt := 75) X.1 X.2.1 dX9_lay_68 (by decide) (fun _ => ?_) (fun c38 => absurd c38 (by decide))
              refine lv_iconst (v := 0) X.1 X.2.1 dX9_lay_75 (by decide) ?_
              refine cVW [.int v1, .int v3, .int 0] [] X hw hS (c_X9_layOne l G A p28.2 v1 v3 0 (by omega) (by omega)) (cwV 3 X.2.2.2.2 gX9_lay_X9_layOne rfl rfl rfl (by decide +kernel) ⟨Nat.le_of_ble_eq_true rfl, Nat.le_of_ble_eq_true rfl⟩) (hw.recv (by decide) hm_MO rfl) rfl rfl hl.1 (Nat.le_of_ble_eq_true rfl) dX9_lay_76 (fun H locs hw hS => ?_)
              refine tpb (fun M39 eM39 => ?_)
              rw [← eM39] at hw
              refine lv_aload_n X.1 X.2.1 dX9_lay_79 rfl (lv_at hl 1 rfl) ?_
              refine lv_iload X.1 X.2.1 dX9_lay_80 (lv_at hl 0 rfl) ?_
              refine lv_if_eq (tgt := 89) X.1 X.2.1 dX9_lay_82 (by decide) (fun c40 => absurd c40 (by decide)) (fun _ => ?_)
              refine lv_iload_n X.1 X.2.1 dX9_lay_85 rfl (lv_at hl 3 rfl) ?_
              refine lv_goto (tgt := 90) X.1 X.2.1 dX9_lay_86 (by decide) ?_
              refine lv_iload_n X.1 X.2.1 dX9_lay_90 rfl (lv_at hl 4 rfl) ?_
              refine lv_iload X.1 X.2.1 dX9_lay_91 (lv_at hl 0 rfl) ?_
              refine cVW [.int v2, .int v3, .int 1] [] X hw hS (c_X9_layOne l G A M39 v2 v3 1 (by omega) (by omega)) (cwV 3 X.2.2.2.2 gX9_lay_X9_layOne rfl rfl rfl (by decide +kernel) ⟨Nat.le_of_ble_eq_true rfl, Nat.le_of_ble_eq_true rfl⟩) (hw.recv (by decide) hm_MO rfl) rfl rfl hl.1 (Nat.le_of_ble_eq_true rfl) dX9_lay_93 (fun H locs hw hS => ?_)
              refine tpb (fun M41 eM41 => ?_)
              rw [← eM41] at hw
              refine lv_goto (tgt := 11) X.1 X.2.1 dX9_lay_96 (by decide) ?_
              exact ih1 M41 v1 v2 v3 (by subst_vars; exact lay_dn (by assumption) (by assumption) (ly_up (by assumption) (by assumption) (by first | exact Or.inl (by assumption) | exact Or.inr (by assumption)))) (by omega) (by omega) (by omega) hw.2.2.2.2.2.2.2.1.1 _ _ hw hS ls (lv_sub hl [1, 2, 3, 4] rfl)
  exact L1 ((16 - (M2.1 0 13).toInt : Int).toNat + 1) M2 a1 a2 a3 (Nat.lt_succ_self _) (by first | omega | decide) (by first | omega | decide) (by first | omega | decide) hw.2.2.2.2.2.2.2.1.1 _ _ hw hS ls (lv_sub hl [0, 1, 2, 3] rfl)
