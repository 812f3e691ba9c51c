/-! 59.modds -/
def f_X9_odds_167 (K : Int64 → Int32 × Mem) : Nat → Mem → Int32 → Int64 → Int64 → Int64 → Int32 → Int64 → Int32 → Int32 × Mem
  | 0, M, _, _, _, _, _, _, _ => (0, M)
  | n4 + 1, M, v6, v7, v9, v11, v13, u14, u16 => if v6 ≤ u16 then (K u14) else (bnd ((M.2 5 u16.toNatClampNeg) * (v7 / (M.2 6 u16.toNatClampNeg))) (fun w24 => if ((v13 >>> (u16 &&& 31)) &&& 1) = 1 then (bnd (u14 + (-w24)) (fun w30 => f_X9_odds_167 K n4 M v6 v7 v9 v11 v13 w30 (u16 + 1))) else (bnd (u14 + w24) (fun w27 => f_X9_odds_167 K n4 M v6 v7 v9 v11 v13 w27 (u16 + 1)))))
def f_X9_odds_152 : Nat → Mem → Int32 → Int64 → Int64 → Int64 → Int32 → Int32 × Mem
  | 0, M, _, _, _, _, _ => (0, M)
  | n3 + 1, M, v6, v7, v9, v11, v13 => if (1 <<< (v6 &&& 31)) ≤ v13 then (bnd (f_X9_make M v11 ((1 : Int64) <<< (v6.toInt64 &&& 63))) (fun M18 => bnd (f_X9_show M18) (fun M19 => (v6, M19)))) else (f_X9_odds_167 (fun y14 => if (0 : Int64) ≤ y14 then (if y14 < v9 then (bnd (v11 + 0) (fun w34 => f_X9_odds_152 n3 M v6 v7 v9 w34 (v13 + 1))) else (bnd (v11 + 1) (fun w36 => f_X9_odds_152 n3 M v6 v7 v9 w36 (v13 + 1)))) else (if (-y14) < v9 then (bnd (v11 + 0) (fun w39 => f_X9_odds_152 n3 M v6 v7 v9 w39 (v13 + 1))) else (bnd (v11 + 1) (fun w41 => f_X9_odds_152 n3 M v6 v7 v9 w41 (v13 + 1))))) 9 M v6 v7 v9 v11 v13 0 0)
def f_X9_odds_93 : Nat → Mem → Int32 → Int64 → Int64 → Int32 → Int32 × Mem
  | 0, M, _, _, _, _ => (0, M)
  | n2 + 1, M, v6, v7, v9, v11 => if v6 ≤ v11 then (if (0 : Int64) ≤ v9 then (f_X9_odds_152 (((1 <<< (v6 &&& 31) : Int32).toInt - 0 : Int).toNat + 1) M v6 v7 v9 0 0) else (bnd (-v9) (fun w43 => f_X9_odds_152 (((1 <<< (v6 &&& 31) : Int32).toInt - 0 : Int).toNat + 1) M v6 v7 w43 0 0))) else (bnd (v9 + ((M.2 5 v11.toNatClampNeg) * (v7 / (M.2 6 v11.toNatClampNeg)))) (fun w72 => f_X9_odds_93 n2 M v6 v7 w72 (v11 + 1)))
def f_X9_odds_49 : Nat → Mem → Int32 → Int64 → Int32 → Int32 × Mem
  | 0, M, _, _, _ => (0, M)
  | n1 + 1, M, v6, v7, v9 => if v6 ≤ v9 then (f_X9_odds_93 9 M v6 v7 0 0) else (bnd (f_X9_common v7 (M.2 6 v9.toNatClampNeg)) (fun r75 => bnd ((v7 / r75) * (M.2 6 v9.toNatClampNeg)) (fun w76 => f_X9_odds_49 n1 M v6 w76 (v9 + 1))))
def f_X9_odds (M : Mem) (a1 : Int32) (a2 : Int32) (a3 : Int32) (a4 : Int32) : Int32 × Mem := bnd (f_X9_refused a1 a2 a3 a4) (fun r1 => if (0 : Int32) ≤ r1 then (bnd (f_X9_differences M a1 a2 a3 a4) (fun p4 => bnd p4.1 (fun x5 => if a1 = a2 then ((-3), p4.2) else (if x5 = 0 then ((-3), p4.2) else (f_X9_odds_49 9 p4.2 x5 1 0))))) else (r1, M))
set_option maxRecDepth 100000 in
set_option maxHeartbeats 4000000 in
theorem c_X9_odds (l : Launch) (G : En) (A : Nat → Prop) (M : Mem) (a1 : Int32) (a2 : Int32) (a3 : Int32) (a4 : Int32) : WrI false l yX9_odds wsX9_odds ({ frames := 7, cells := 0, slots := 0, locals := 192 }) G A M [.ref (G.2.2 0), .int a1, .int a2, .int a3, .int a4] (f_X9_odds M a1 a2 a3 a4) := by
  refine WrI.of (cc := cX9_odds) (maxL := 19) (ret := (some .int)) (own := RX9) (by decide) rfl rfl (Nat.le_of_ble_eq_true rfl) ?_
  intro p e s m below meth c X hw hr hlk ls hl hS
  have hl : lv_has ls 19 [(0, .ref (G.2.2 0)), (1, .int a1), (2, .int a2), (3, .int a3), (4, .int a4)] := hl
  unfold f_X9_odds
  refine lv_aload_n X.1 X.2.1 dX9_odds_0 rfl (lv_at hl 0 rfl) ?_
  refine lv_iload_n X.1 X.2.1 dX9_odds_1 rfl (lv_at hl 1 rfl) ?_
  refine lv_iload_n X.1 X.2.1 dX9_odds_2 rfl (lv_at hl 2 rfl) ?_
  refine lv_iload_n X.1 X.2.1 dX9_odds_3 rfl (lv_at hl 3 rfl) ?_
  refine lv_iload X.1 X.2.1 dX9_odds_4 (lv_at hl 4 rfl) ?_
  refine cVI [.int a1, .int a2, .int a3, .int a4] [] X hw (c_X9_refused l G A M a1 a2 a3 a4) (cwV 4 X.2.2.2.2 gX9_odds_X9_refused rfl rfl rfl (by decide +kernel) ⟨Nat.le_of_ble_eq_true rfl, Nat.le_of_ble_eq_true rfl⟩) (hw.recv (by decide) hm_MO rfl) rfl rfl hl.1 (Nat.le_of_ble_eq_true rfl) dX9_odds_6 ?_
  refine tni (fun r1 er1 => ?_)
  have zr1 := ref_or er1
  refine lv_istore (lv' := [(5, .int r1), (0, .ref (G.2.2 0)), (1, .int a1), (2, .int a2), (3, .int a3), (4, .int a4)]) X.1 X.2.1 dX9_odds_9 hl (by decide) rfl (fun ls hl => ?_)
  refine lv_iload X.1 X.2.1 dX9_odds_11 (lv_at hl 0 rfl) ?_
  refine bz_ge (tgt := 19) X dX9_odds_13 (by decide) (fun c2 => ?_) (fun c2 => ?_)
  · skip
    have t3 : 0 ≤ r1.toInt := i_le c2
    refine lv_aload_n X.1 X.2.1 dX9_odds_19 rfl (lv_at hl 1 rfl) ?_
    refine lv_iload_n X.1 X.2.1 dX9_odds_20 rfl (lv_at hl 2 rfl) ?_
    refine lv_iload_n X.1 X.2.1 dX9_odds_21 rfl (lv_at hl 3 rfl) ?_
    refine lv_iload_n X.1 X.2.1 dX9_odds_22 rfl (lv_at hl 4 rfl) ?_
    refine lv_iload X.1 X.2.1 dX9_odds_23 (lv_at hl 5 rfl) ?_
    refine cVJ [.int a1, .int a2, .int a3, .int a4] [] X hw hS (c_X9_differences l G A M a1 a2 a3 a4 (by omega) (by omega) (by omega)) (cwV 4 X.2.2.2.2 gX9_odds_X9_differences rfl rfl rfl (by decide +kernel) ⟨Nat.le_of_ble_eq_true rfl, Nat.le_of_ble_eq_true rfl⟩) (hw.recv (by decide) hm_MO rfl) rfl rfl hl.1 (Nat.le_of_ble_eq_true rfl) dX9_odds_25 (fun H locs hw hS => ?_)
    refine tpb (fun p4 ep4 => ?_)
    rw [← ep4] at hw
    rw [← ep4]
    have zd := df_ok M a1 a2 a3 a4
    rw [← ep4] at zd
    obtain ⟨zd1, zd2⟩ := zd
    refine tni (fun x5 ex5 => ?_)
    rw [← ex5] at zd1 zd2
    refine lv_istore (lv' := [(6, .int x5), (5, .int r1), (0, .ref (G.2.2 0)), (1, .int a1), (2, .int a2), (3, .int a3), (4, .int a4)]) X.1 X.2.1 dX9_odds_28 hl (by decide) rfl (fun ls hl => ?_)
    refine lv_iload_n X.1 X.2.1 dX9_odds_30 rfl (lv_at hl 3 rfl) ?_
    refine lv_iload_n X.1 X.2.1 dX9_odds_31 rfl (lv_at hl 4 rfl) ?_
    refine bi_eq (tgt := 40) X dX9_odds_32 (by decide) (fun c6 => ?_) (fun c6 => ?_)
    · skip
      have t7 : a1.toInt = a2.toInt := i_eq c6
      refine lv_bipush (v := (-3)) X.1 X.2.1 dX9_odds_40 (by decide) ?_
      exact rQ X hr hlk hw hS dX9_odds_42
    · skip
      have t8 : ¬ a1.toInt = a2.toInt := i_ne c6
      refine lv_iload X.1 X.2.1 dX9_odds_35 (lv_at hl 0 rfl) ?_
      refine bz_ne (tgt := 43) X dX9_odds_37 (by decide) (fun c9 => ?_) (fun c9 => ?_)
      · skip
        have t10 : ¬ x5.toInt = 0 := i_ne c9
        refine lv_lconst (v := 1) X.1 X.2.1 dX9_odds_43 (by decide) ?_
        refine lv_lstore (lv' := [(7, .long 1), (6, .int x5), (5, .int r1), (0, .ref (G.2.2 0)), (1, .int a1), (2, .int a2), (3, .int a3), (4, .int a4)]) X.1 X.2.1 dX9_odds_44 hl (by decide) rfl (fun ls hl => ?_)
        refine lv_iconst (v := 0) X.1 X.2.1 dX9_odds_46 (by decide) ?_
        refine lv_istore (lv' := [(9, .int 0), (7, .long 1), (6, .int x5), (5, .int r1), (0, .ref (G.2.2 0)), (1, .int a1), (2, .int a2), (3, .int a3), (4, .int a4)]) X.1 X.2.1 dX9_odds_47 hl (by decide) rfl (fun ls hl => ?_)
        have L1 : ∀ (n1 : Nat) (v6 : Int32) (v7 : Int64) (v9 : Int32)  (hm1 : (8 - v9.toInt : Int).toNat < n1) (hi1_0 : 0 ≤ v9.toInt) (hi1_1 : v6.toInt ≤ 8) (hi1_2 : ∀ j : Nat, (j : Int) < v6.toInt → ¬ p4.2.2 6 j = 0), ∀ (H : Heap) (locs : List Loc), WD false G A p4.2 s H → va_S A s.heap H locs → ∀ ls : Array Slot, lv_has ls 19 [(0, .ref (G.2.2 0)), (6, .int v6), (7, .long v7), (9, .int v9)] → W p l e ({ frames := 7, cells := 0, slots := 0, locals := 192 } : Room) s m ([.ref (G.2.2 0), .int a1, .int a2, .int a3, .int a4] : List Value).toArray below meth c H locs 0 0 (TQi false G A below ([.ref (G.2.2 0), .int a1, .int a2, .int a3, .int a4] : List Value).toArray s (f_X9_odds_49 n1 p4.2 v6 v7 v9)) (F0 m 49 ls []) := by
          intro n1
          induction n1 with
          | zero => intro v6 v7 v9 hm1 hi1_0 hi1_1 hi1_2; exact absurd hm1 (by omega)
          | succ n1 ih1 =>
            intro v6 v7 v9 hm1 hi1_0 hi1_1 hi1_2 H locs hw hS ls hl
            rw [f_X9_odds_49]
            refine lv_iload X.1 X.2.1 dX9_odds_49 (lv_at hl 3 rfl) ?_
            refine lv_iload X.1 X.2.1 dX9_odds_51 (lv_at hl 1 rfl) ?_
            refine bi_ge (tgt := 87) X dX9_odds_53 (by decide) (fun c11 => ?_) (fun c11 => ?_)
            · skip
              have t12 : v6.toInt ≤ v9.toInt := i_le c11
              refine lv_lconst (v := 0) X.1 X.2.1 dX9_odds_87 (by decide) ?_
              refine lv_lstore (lv' := [(9, .long 0), (0, .ref (G.2.2 0)), (6, .int v6), (7, .long v7)]) X.1 X.2.1 dX9_odds_88 hl (by decide) rfl (fun ls hl => ?_)
              refine lv_iconst (v := 0) X.1 X.2.1 dX9_odds_90 (by decide) ?_
              refine lv_istore (lv' := [(11, .int 0), (9, .long 0), (0, .ref (G.2.2 0)), (6, .int v6), (7, .long v7)]) X.1 X.2.1 dX9_odds_91 hl (by decide) rfl (fun ls hl => ?_)
              have L2 : ∀ (n2 : Nat) (v6 : Int32) (v7 : Int64) (v9 : Int64) (v11 : Int32)  (hm2 : (8 - v11.toInt : Int).toNat < n2) (hi2_0 : 0 ≤ v11.toInt) (hi2_1 : v6.toInt ≤ 8) (hi2_2 : ∀ j : Nat, (j : Int) < v6.toInt → ¬ p4.2.2 6 j = 0), ∀ (H : Heap) (locs : List Loc), WD false G A p4.2 s H → va_S A s.heap H locs → ∀ ls : Array Slot, lv_has ls 19 [(0, .ref (G.2.2 0)), (6, .int v6), (7, .long v7), (9, .long v9), (11, .int v11)] → W p l e ({ frames := 7, cells := 0, slots := 0, locals := 192 } : Room) s m ([.ref (G.2.2 0), .int a1, .int a2, .int a3, .int a4] : List Value).toArray below meth c H locs 0 0 (TQi false G A below ([.ref (G.2.2 0), .int a1, .int a2, .int a3, .int a4] : List Value).toArray s (f_X9_odds_93 n2 p4.2 v6 v7 v9 v11)) (F0 m 93 ls []) := by
                intro n2
                induction n2 with
                | zero => intro v6 v7 v9 v11 hm2 hi2_0 hi2_1 hi2_2; exact absurd hm2 (by omega)
                | succ n2 ih2 =>
                  intro v6 v7 v9 v11 hm2 hi2_0 hi2_1 hi2_2 H locs hw hS ls hl
                  rw [f_X9_odds_93]
                  refine lv_iload X.1 X.2.1 dX9_odds_93 (lv_at hl 4 rfl) ?_
                  refine lv_iload X.1 X.2.1 dX9_odds_95 (lv_at hl 1 rfl) ?_
                  refine bi_ge (tgt := 129) X dX9_odds_97 (by decide) (fun c13 => ?_) (fun c13 => ?_)
                  · skip
                    have t14 : v6.toInt ≤ v11.toInt := i_le c13
                    refine lv_lload X.1 X.2.1 dX9_odds_129 (lv_at hl 3 rfl) ?_
                    refine lv_lconst (v := 0) X.1 X.2.1 dX9_odds_131 (by decide) ?_
                    refine bl_ge (tgt := 142) X dX9_odds_132 dX9_odds_133 (by decide) (fun c15 => ?_) (fun c15 => ?_)
                    · skip
                      refine lv_lload X.1 X.2.1 dX9_odds_142 (lv_at hl 3 rfl) ?_
                      refine lv_lstore (lv' := [(9, .long v9), (0, .ref (G.2.2 0)), (6, .int v6), (7, .long v7), (11, .int v11)]) X.1 X.2.1 dX9_odds_144 hl (by decide) rfl (fun ls hl => ?_)
                      refine lv_lconst (v := 0) X.1 X.2.1 dX9_odds_146 (by decide) ?_
                      refine lv_lstore (lv' := [(11, .long 0), (9, .long v9), (0, .ref (G.2.2 0)), (6, .int v6), (7, .long v7)]) X.1 X.2.1 dX9_odds_147 hl (by decide) rfl (fun ls hl => ?_)
                      refine lv_iconst (v := 0) X.1 X.2.1 dX9_odds_149 (by decide) ?_
                      refine lv_istore (lv' := [(13, .int 0), (11, .long 0), (9, .long v9), (0, .ref (G.2.2 0)), (6, .int v6), (7, .long v7)]) X.1 X.2.1 dX9_odds_150 hl (by decide) rfl (fun ls hl => ?_)
                      have L3 : ∀ (n3 : Nat) (v6 : Int32) (v7 : Int64) (v9 : Int64) (v11 : Int64) (v13 : Int32)  (hm3 : ((1 <<< (v6 &&& 31) : Int32).toInt - v13.toInt : Int).toNat < n3) (hi3_0 : v6.toInt ≤ 8) (hi3_1 : ∀ j : Nat, (j : Int) < v6.toInt → ¬ p4.2.2 6 j = 0), ∀ (H : Heap) (locs : List Loc), WD false G A p4.2 s H → va_S A s.heap H locs → ∀ ls : Array Slot, lv_has ls 19 [(0, .ref (G.2.2 0)), (6, .int v6), (7, .long v7), (9, .long v9), (11, .long v11), (13, .int v13)] → W p l e ({ frames := 7, cells := 0, slots := 0, locals := 192 } : Room) s m ([.ref (G.2.2 0), .int a1, .int a2, .int a3, .int a4] : List Value).toArray below meth c H locs 0 0 (TQi false G A below ([.ref (G.2.2 0), .int a1, .int a2, .int a3, .int a4] : List Value).toArray s (f_X9_odds_152 n3 p4.2 v6 v7 v9 v11 v13)) (F0 m 152 ls []) := by
                        intro n3
                        induction n3 with
                        | zero => intro v6 v7 v9 v11 v13 hm3 hi3_0 hi3_1; exact absurd hm3 (by omega)
                        | succ n3 ih3 =>
                          intro v6 v7 v9 v11 v13 hm3 hi3_0 hi3_1 H locs hw hS ls hl
                          rw [f_X9_odds_152]
                          refine lv_iload X.1 X.2.1 dX9_odds_152 (lv_at hl 5 rfl) ?_
                          refine lv_iconst (v := 1) X.1 X.2.1 dX9_odds_154 (by decide) ?_
                          refine lv_iload X.1 X.2.1 dX9_odds_155 (lv_at hl 1 rfl) ?_
                          refine lv_ishl X.1 X.2.1 dX9_odds_157 ?_
                          refine bi_ge (tgt := 261) X dX9_odds_158 (by decide) (fun c16 => ?_) (fun c16 => ?_)
                          · skip
                            have t17 : (1 <<< (v6 &&& 31)).toInt ≤ v13.toInt := i_le c16
                            refine lv_aload_n X.1 X.2.1 dX9_odds_261 rfl (lv_at hl 0 rfl) ?_
                            refine lv_lload X.1 X.2.1 dX9_odds_262 (lv_at hl 4 rfl) ?_
                            refine lv_lconst (v := 1) X.1 X.2.1 dX9_odds_264 (by decide) ?_
                            refine lv_iload X.1 X.2.1 dX9_odds_265 (lv_at hl 1 rfl) ?_
                            refine lv_lshl (v := ((1 : Int64) <<< (v6.toInt64 &&& 63))) X.1 X.2.1 dX9_odds_267 rfl ?_
                            refine cVW [.long v11, .long ((1 : Int64) <<< (v6.toInt64 &&& 63))] [] X hw hS (c_X9_make l G A p4.2 v11 ((1 : Int64) <<< (v6.toInt64 &&& 63))) (cwV 2 X.2.2.2.2 gX9_odds_X9_make rfl rfl rfl (by decide +kernel) ⟨Nat.le_of_ble_eq_true rfl, Nat.le_of_ble_eq_true rfl⟩) (hw.recv (by decide) hm_MO rfl) rfl rfl hl.1 (Nat.le_of_ble_eq_true rfl) dX9_odds_268 (fun H locs hw hS => ?_)
                            refine tpb (fun M18 eM18 => ?_)
                            rw [← eM18] at hw
                            refine lv_aload_n X.1 X.2.1 dX9_odds_271 rfl (lv_at hl 0 rfl) ?_
                            refine cVW [] [] X hw hS (c_X9_show l G A M18 ) (cwV 0 X.2.2.2.2 gX9_odds_X9_show rfl rfl rfl (by decide +kernel) ⟨Nat.le_of_ble_eq_true rfl, Nat.le_of_ble_eq_true rfl⟩) (hw.recv (by decide) hm_MO rfl) rfl rfl hl.1 (Nat.le_of_ble_eq_true rfl) dX9_odds_272 (fun H locs hw hS => ?_)
                            refine tpb (fun M19 eM19 => ?_)
                            rw [← eM19] at hw
                            refine lv_iload X.1 X.2.1 dX9_odds_275 (lv_at hl 1 rfl) ?_
                            exact rQ X hr hlk hw hS dX9_odds_277
                          · skip
                            have t20 : v13.toInt < (1 <<< (v6 &&& 31)).toInt := i_nle c16
                            refine lv_lconst (v := 0) X.1 X.2.1 dX9_odds_161 (by decide) ?_
                            refine lv_lstore (lv' := [(14, .long 0), (0, .ref (G.2.2 0)), (6, .int v6), (7, .long v7), (9, .long v9), (11, .long v11), (13, .int v13)]) X.1 X.2.1 dX9_odds_162 hl (by decide) rfl (fun ls hl => ?_)
                            refine lv_iconst (v := 0) X.1 X.2.1 dX9_odds_164 (by decide) ?_
                            refine lv_istore (lv' := [(16, .int 0), (14, .long 0), (0, .ref (G.2.2 0)), (6, .int v6), (7, .long v7), (9, .long v9), (11, .long v11), (13, .int v13)]) X.1 X.2.1 dX9_odds_165 hl (by decide) rfl (fun ls hl => ?_)
                            have L4 : ∀ (K : Int64 → Int32 × Mem) (hK4 : ∀ (y14 : Int64) , ∀ (H : Heap) (locs : List Loc), WD false G A p4.2 s H → va_S A s.heap H locs → ∀ ls : Array Slot, lv_has ls 19 [(0, .ref (G.2.2 0)), (6, .int v6), (7, .long v7), (9, .long v9), (11, .long v11), (13, .int v13), (14, .long y14)] → W p l e ({ frames := 7, cells := 0, slots := 0, locals := 192 } : Room) s m ([.ref (G.2.2 0), .int a1, .int a2, .int a3, .int a4] : List Value).toArray below meth c H locs 0 0 (TQi false G A below ([.ref (G.2.2 0), .int a1, .int a2, .int a3, .int a4] : List Value).toArray s (K y14)) (F0 m 224 ls [])) (n4 : Nat) (u14 : Int64) (u16 : Int32) (hm4 : (8 - u16.toInt : Int).toNat < n4) (hi4_0 : 0 ≤ u16.toInt), ∀ (H : Heap) (locs : List Loc), WD false G A p4.2 s H → va_S A s.heap H locs → ∀ ls : Array Slot, lv_has ls 19 [(0, .ref (G.2.2 0)), (6, .int v6), (7, .long v7), (9, .long v9), (11, .long v11), (13, .int v13), (14, .long u14), (16, .int u16)] → W p l e ({ frames := 7, cells := 0, slots := 0, locals := 192 } : Room) s m ([.ref (G.2.2 0), .int a1, .int a2, .int a3, .int a4] : List Value).toArray below meth c H locs 0 0 (TQi false G A below ([.ref (G.2.2 0), .int a1, .int a2, .int a3, .int a4] : List Value).toArray s (f_X9_odds_167 K n4 p4.2 v6 v7 v9 v11 v13 u14 u16)) (F0 m 167 ls []) := by
                              intro K hK4 n4
                              induction n4 with
                              | zero => intro u14 u16 hm4 hi4_0; exact absurd hm4 (by omega)
                              | succ n4 ih4 =>
                                intro u14 u16 hm4 hi4_0 H locs hw hS ls hl
                                rw [f_X9_odds_167]
                                refine lv_iload X.1 X.2.1 dX9_odds_167 (lv_at hl 7 rfl) ?_
                                refine lv_iload X.1 X.2.1 dX9_odds_169 (lv_at hl 1 rfl) ?_
                                refine bi_ge (tgt := 224) X dX9_odds_171 (by decide) (fun c21 => ?_) (fun c21 => ?_)
                                · skip
                                  have t22 : v6.toInt ≤ u16.toInt := i_le c21
                                  exact hK4 u14 _ _ hw hS ls (lv_sub hl [0, 1, 2, 3, 4, 5, 6] rfl)
                                · skip
                                  have t23 : u16.toInt < v6.toInt := i_nle c21
                                  refine lv_aload_n X.1 X.2.1 dX9_odds_174 rfl (lv_at hl 0 rfl) ?_
                                  refine gF X hw (by decide) hm_MO rfl (by decide +kernel) 8 (by decide) (ref := "RankBenchModel") rfl (by decide +kernel) rfl dX9_odds_175 ?_
                                  refine lv_iload X.1 X.2.1 dX9_odds_178 (lv_at hl 7 rfl) ?_
                                  refine aL X hw (by decide) hm_mp (vp_in_iff.mpr ⟨by omega, by omega⟩) dX9_odds_180 ?_
                                  refine lv_lload X.1 X.2.1 dX9_odds_181 (lv_at hl 2 rfl) ?_
                                  refine lv_aload_n X.1 X.2.1 dX9_odds_183 rfl (lv_at hl 0 rfl) ?_
                                  refine gF X hw (by decide) hm_MO rfl (by decide +kernel) 9 (by decide) (ref := "RankBenchModel") rfl (by decide +kernel) rfl dX9_odds_184 ?_
                                  refine lv_iload X.1 X.2.1 dX9_odds_187 (lv_at hl 7 rfl) ?_
                                  refine aL X hw (by decide) hm_mb (vp_in_iff.mpr ⟨by omega, by omega⟩) dX9_odds_189 ?_
                                  refine lv_ldiv X.1 X.2.1 dX9_odds_190 (bt_nz (by assumption) (by omega) (by omega)) ?_
                                  refine lv_lmul X.1 X.2.1 dX9_odds_191 ?_
                                  refine tnl (fun w24 ew24 => ?_)
                                  refine lv_lstore (lv' := [(17, .long w24), (0, .ref (G.2.2 0)), (6, .int v6), (7, .long v7), (9, .long v9), (11, .long v11), (13, .int v13), (14, .long u14), (16, .int u16)]) X.1 X.2.1 dX9_odds_192 hl (by decide) rfl (fun ls hl => ?_)
                                  refine lv_lload X.1 X.2.1 dX9_odds_194 (lv_at hl 7 rfl) ?_
                                  refine lv_iload X.1 X.2.1 dX9_odds_196 (lv_at hl 6 rfl) ?_
                                  refine lv_iload X.1 X.2.1 dX9_odds_198 (lv_at hl 8 rfl) ?_
                                  refine lv_ishr X.1 X.2.1 dX9_odds_200 ?_
                                  refine lv_iconst (v := 1) X.1 X.2.1 dX9_odds_201 (by decide) ?_
                                  refine lv_iand X.1 X.2.1 dX9_odds_202 ?_
                                  refine lv_iconst (v := 1) X.1 X.2.1 dX9_odds_203 (by decide) ?_
                                  refine bi_ne (tgt := 213) X dX9_odds_204 (by decide) (fun c25 => ?_) (fun c25 => ?_)
                                  · skip
                                    have t26 : ¬ ((v13 >>> (u16 &&& 31)) &&& 1).toInt = 1 := i_ne c25
                                    refine lv_lload X.1 X.2.1 dX9_odds_213 (lv_at hl 0 rfl) ?_
                                    refine lv_ladd X.1 X.2.1 dX9_odds_215 ?_
                                    refine tnl (fun w27 ew27 => ?_)
                                    refine lv_lstore (lv' := [(14, .long w27), (17, .long w24), (0, .ref (G.2.2 0)), (6, .int v6), (7, .long v7), (9, .long v9), (11, .long v11), (13, .int v13), (16, .int u16)]) X.1 X.2.1 dX9_odds_216 hl (by decide) rfl (fun ls hl => ?_)
                                    refine lv_iinc (v := (u16 + 1)) (lv' := [(16, .int (u16 + 1)), (14, .long w27), (17, .long w24), (0, .ref (G.2.2 0)), (6, .int v6), (7, .long v7), (9, .long v9), (11, .long v11), (13, .int v13)]) X.1 X.2.1 dX9_odds_218 hl (k := 8) rfl rfl (by decide) rfl (fun ls hl => ?_)
                                    refine lv_goto (tgt := 167) X.1 X.2.1 dX9_odds_221 (by decide) ?_
                                    have q28 := inc_sp u16
                                    exact ih4 w27 (u16 + 1) (by omega) (by omega) _ _ hw hS ls (lv_sub hl [3, 4, 5, 6, 7, 8, 1, 0] rfl)
                                  · skip
                                    have t29 : ((v13 >>> (u16 &&& 31)) &&& 1).toInt = 1 := i_eq c25
                                    refine lv_lload X.1 X.2.1 dX9_odds_207 (lv_at hl 0 rfl) ?_
                                    refine lv_lneg X.1 X.2.1 dX9_odds_209 ?_
                                    refine lv_goto (tgt := 215) X.1 X.2.1 dX9_odds_210 (by decide) ?_
                                    refine lv_ladd X.1 X.2.1 dX9_odds_215 ?_
                                    refine tnl (fun w30 ew30 => ?_)
                                    refine lv_lstore (lv' := [(14, .long w30), (17, .long w24), (0, .ref (G.2.2 0)), (6, .int v6), (7, .long v7), (9, .long v9), (11, .long v11), (13, .int v13), (16, .int u16)]) X.1 X.2.1 dX9_odds_216 hl (by decide) rfl (fun ls hl => ?_)
                                    refine lv_iinc (v := (u16 + 1)) (lv' := [(16, .int (u16 + 1)), (14, .long w30), (17, .long w24), (0, .ref (G.2.2 0)), (6, .int v6), (7, .long v7), (9, .long v9), (11, .long v11), (13, .int v13)]) X.1 X.2.1 dX9_odds_218 hl (k := 8) rfl rfl (by decide) rfl (fun ls hl => ?_)
                                    refine lv_goto (tgt := 167) X.1 X.2.1 dX9_odds_221 (by decide) ?_
                                    have q31 := inc_sp u16
                                    exact ih4 w30 (u16 + 1) (by omega) (by omega) _ _ hw hS ls (lv_sub hl [3, 4, 5, 6, 7, 8, 1, 0] rfl)
                            refine L4 _ (fun y14 H locs hw hS ls hl => ?_) 9 0 0 (by decide) (by first | omega | decide) _ _ hw hS ls (lv_sub hl [2, 3, 4, 5, 6, 7, 1, 0] rfl)
                            refine lv_lload X.1 X.2.1 dX9_odds_224 (lv_at hl 4 rfl) ?_
                            refine lv_lload X.1 X.2.1 dX9_odds_226 (lv_at hl 6 rfl) ?_
                            refine lv_lconst (v := 0) X.1 X.2.1 dX9_odds_228 (by decide) ?_
                            refine bl_ge (tgt := 239) X dX9_odds_229 dX9_odds_230 (by decide) (fun c32 => ?_) (fun c32 => ?_)
                            · skip
                              refine lv_lload X.1 X.2.1 dX9_odds_239 (lv_at hl 6 rfl) ?_
                              refine lv_lload X.1 X.2.1 dX9_odds_241 (lv_at hl 3 rfl) ?_
                              refine bl_lt (tgt := 251) X dX9_odds_243 dX9_odds_244 (by decide) (fun c33 => ?_) (fun c33 => ?_)
                              · skip
                                refine lv_lconst (v := 0) X.1 X.2.1 dX9_odds_251 (by decide) ?_
                                refine lv_ladd X.1 X.2.1 dX9_odds_252 ?_
                                refine tnl (fun w34 ew34 => ?_)
                                refine lv_lstore (lv' := [(11, .long w34), (0, .ref (G.2.2 0)), (6, .int v6), (7, .long v7), (9, .long v9), (13, .int v13), (14, .long y14)]) X.1 X.2.1 dX9_odds_253 hl (by decide) rfl (fun ls hl => ?_)
                                refine lv_iinc (v := (v13 + 1)) (lv' := [(13, .int (v13 + 1)), (11, .long w34), (0, .ref (G.2.2 0)), (6, .int v6), (7, .long v7), (9, .long v9), (14, .long y14)]) X.1 X.2.1 dX9_odds_255 hl (k := 5) rfl rfl (by decide) rfl (fun ls hl => ?_)
                                refine lv_goto (tgt := 152) X.1 X.2.1 dX9_odds_258 (by decide) ?_
                                have q35 := inc_sp v13
                                have qrg := i_rg (1 <<< (v6 &&& 31))
                                exact ih3 v6 v7 v9 w34 (v13 + 1) (by omega) (by omega) (by assumption) _ _ hw hS ls (lv_sub hl [2, 3, 4, 5, 1, 0] rfl)
                              · skip
                                refine lv_lconst (v := 1) X.1 X.2.1 dX9_odds_247 (by decide) ?_
                                refine lv_goto (tgt := 252) X.1 X.2.1 dX9_odds_248 (by decide) ?_
                                refine lv_ladd X.1 X.2.1 dX9_odds_252 ?_
                                refine tnl (fun w36 ew36 => ?_)
                                refine lv_lstore (lv' := [(11, .long w36), (0, .ref (G.2.2 0)), (6, .int v6), (7, .long v7), (9, .long v9), (13, .int v13), (14, .long y14)]) X.1 X.2.1 dX9_odds_253 hl (by decide) rfl (fun ls hl => ?_)
                                refine lv_iinc (v := (v13 + 1)) (lv' := [(13, .int (v13 + 1)), (11, .long w36), (0, .ref (G.2.2 0)), (6, .int v6), (7, .long v7), (9, .long v9), (14, .long y14)]) X.1 X.2.1 dX9_odds_255 hl (k := 5) rfl rfl (by decide) rfl (fun ls hl => ?_)
                                refine lv_goto (tgt := 152) X.1 X.2.1 dX9_odds_258 (by decide) ?_
                                have q37 := inc_sp v13
                                have qrg := i_rg (1 <<< (v6 &&& 31))
                                exact ih3 v6 v7 v9 w36 (v13 + 1) (by omega) (by omega) (by assumption) _ _ hw hS ls (lv_sub hl [2, 3, 4, 5, 1, 0] rfl)
                            · skip
                              refine lv_lload X.1 X.2.1 dX9_odds_233 (lv_at hl 6 rfl) ?_
                              refine lv_lneg X.1 X.2.1 dX9_odds_235 ?_
                              refine lv_goto (tgt := 241) X.1 X.2.1 dX9_odds_236 (by decide) ?_
                              refine lv_lload X.1 X.2.1 dX9_odds_241 (lv_at hl 3 rfl) ?_
                              refine bl_lt (tgt := 251) X dX9_odds_243 dX9_odds_244 (by decide) (fun c38 => ?_) (fun c38 => ?_)
                              · skip
                                refine lv_lconst (v := 0) X.1 X.2.1 dX9_odds_251 (by decide) ?_
                                refine lv_ladd X.1 X.2.1 dX9_odds_252 ?_
                                refine tnl (fun w39 ew39 => ?_)
                                refine lv_lstore (lv' := [(11, .long w39), (0, .ref (G.2.2 0)), (6, .int v6), (7, .long v7), (9, .long v9), (13, .int v13), (14, .long y14)]) X.1 X.2.1 dX9_odds_253 hl (by decide) rfl (fun ls hl => ?_)
                                refine lv_iinc (v := (v13 + 1)) (lv' := [(13, .int (v13 + 1)), (11, .long w39), (0, .ref (G.2.2 0)), (6, .int v6), (7, .long v7), (9, .long v9), (14, .long y14)]) X.1 X.2.1 dX9_odds_255 hl (k := 5) rfl rfl (by decide) rfl (fun ls hl => ?_)
                                refine lv_goto (tgt := 152) X.1 X.2.1 dX9_odds_258 (by decide) ?_
                                have q40 := inc_sp v13
                                have qrg := i_rg (1 <<< (v6 &&& 31))
                                exact ih3 v6 v7 v9 w39 (v13 + 1) (by omega) (by omega) (by assumption) _ _ hw hS ls (lv_sub hl [2, 3, 4, 5, 1, 0] rfl)
                              · skip
                                refine lv_lconst (v := 1) X.1 X.2.1 dX9_odds_247 (by decide) ?_
                                refine lv_goto (tgt := 252) X.1 X.2.1 dX9_odds_248 (by decide) ?_
                                refine lv_ladd X.1 X.2.1 dX9_odds_252 ?_
                                refine tnl (fun w41 ew41 => ?_)
                                refine lv_lstore (lv' := [(11, .long w41), (0, .ref (G.2.2 0)), (6, .int v6), (7, .long v7), (9, .long v9), (13, .int v13), (14, .long y14)]) X.1 X.2.1 dX9_odds_253 hl (by decide) rfl (fun ls hl => ?_)
                                refine lv_iinc (v := (v13 + 1)) (lv' := [(13, .int (v13 + 1)), (11, .long w41), (0, .ref (G.2.2 0)), (6, .int v6), (7, .long v7), (9, .long v9), (14, .long y14)]) X.1 X.2.1 dX9_odds_255 hl (k := 5) rfl rfl (by decide) rfl (fun ls hl => ?_)
                                refine lv_goto (tgt := 152) X.1 X.2.1 dX9_odds_258 (by decide) ?_
                                have q42 := inc_sp v13
                                have qrg := i_rg (1 <<< (v6 &&& 31))
                                exact ih3 v6 v7 v9 w41 (v13 + 1) (by omega) (by omega) (by assumption) _ _ hw hS ls (lv_sub hl [2, 3, 4, 5, 1, 0] rfl)
                      exact L3 (((1 <<< (v6 &&& 31) : Int32).toInt - 0 : Int).toNat + 1) v6 v7 v9 0 0 (Nat.lt_succ_self _) (by first | omega | decide) (by assumption) _ _ hw hS ls (lv_sub hl [3, 4, 5, 2, 1, 0] rfl)
                    · skip
                      refine lv_lload X.1 X.2.1 dX9_odds_136 (lv_at hl 3 rfl) ?_
                      refine lv_lneg X.1 X.2.1 dX9_odds_138 ?_
                      refine lv_goto (tgt := 144) X.1 X.2.1 dX9_odds_139 (by decide) ?_
                      refine tnl (fun w43 ew43 => ?_)
                      refine lv_lstore (lv' := [(9, .long w43), (0, .ref (G.2.2 0)), (6, .int v6), (7, .long v7), (11, .int v11)]) X.1 X.2.1 dX9_odds_144 hl (by decide) rfl (fun ls hl => ?_)
                      refine lv_lconst (v := 0) X.1 X.2.1 dX9_odds_146 (by decide) ?_
                      refine lv_lstore (lv' := [(11, .long 0), (9, .long w43), (0, .ref (G.2.2 0)), (6, .int v6), (7, .long v7)]) X.1 X.2.1 dX9_odds_147 hl (by decide) rfl (fun ls hl => ?_)
                      refine lv_iconst (v := 0) X.1 X.2.1 dX9_odds_149 (by decide) ?_
                      refine lv_istore (lv' := [(13, .int 0), (11, .long 0), (9, .long w43), (0, .ref (G.2.2 0)), (6, .int v6), (7, .long v7)]) X.1 X.2.1 dX9_odds_150 hl (by decide) rfl (fun ls hl => ?_)
                      have L5 : ∀ (n5 : Nat) (v6 : Int32) (v7 : Int64) (v9 : Int64) (v11 : Int64) (v13 : Int32)  (hm5 : ((1 <<< (v6 &&& 31) : Int32).toInt - v13.toInt : Int).toNat < n5) (hi5_0 : v6.toInt ≤ 8) (hi5_1 : ∀ j : Nat, (j : Int) < v6.toInt → ¬ p4.2.2 6 j = 0), ∀ (H : Heap) (locs : List Loc), WD false G A p4.2 s H → va_S A s.heap H locs → ∀ ls : Array Slot, lv_has ls 19 [(0, .ref (G.2.2 0)), (6, .int v6), (7, .long v7), (9, .long v9), (11, .long v11), (13, .int v13)] → W p l e ({ frames := 7, cells := 0, slots := 0, locals := 192 } : Room) s m ([.ref (G.2.2 0), .int a1, .int a2, .int a3, .int a4] : List Value).toArray below meth c H locs 0 0 (TQi false G A below ([.ref (G.2.2 0), .int a1, .int a2, .int a3, .int a4] : List Value).toArray s (f_X9_odds_152 n5 p4.2 v6 v7 v9 v11 v13)) (F0 m 152 ls []) := by
                        intro n5
                        induction n5 with
                        | zero => intro v6 v7 v9 v11 v13 hm5 hi5_0 hi5_1; exact absurd hm5 (by omega)
                        | succ n5 ih5 =>
                          intro v6 v7 v9 v11 v13 hm5 hi5_0 hi5_1 H locs hw hS ls hl
                          rw [f_X9_odds_152]
                          refine lv_iload X.1 X.2.1 dX9_odds_152 (lv_at hl 5 rfl) ?_
                          refine lv_iconst (v := 1) X.1 X.2.1 dX9_odds_154 (by decide) ?_
                          refine lv_iload X.1 X.2.1 dX9_odds_155 (lv_at hl 1 rfl) ?_
                          refine lv_ishl X.1 X.2.1 dX9_odds_157 ?_
                          refine bi_ge (tgt := 261) X dX9_odds_158 (by decide) (fun c44 => ?_) (fun c44 => ?_)
                          · skip
                            have t45 : (1 <<< (v6 &&& 31)).toInt ≤ v13.toInt := i_le c44
                            refine lv_aload_n X.1 X.2.1 dX9_odds_261 rfl (lv_at hl 0 rfl) ?_
                            refine lv_lload X.1 X.2.1 dX9_odds_262 (lv_at hl 4 rfl) ?_
                            refine lv_lconst (v := 1) X.1 X.2.1 dX9_odds_264 (by decide) ?_
                            refine lv_iload X.1 X.2.1 dX9_odds_265 (lv_at hl 1 rfl) ?_
                            refine lv_lshl (v := ((1 : Int64) <<< (v6.toInt64 &&& 63))) X.1 X.2.1 dX9_odds_267 rfl ?_
                            refine cVW [.long v11, .long ((1 : Int64) <<< (v6.toInt64 &&& 63))] [] X hw hS (c_X9_make l G A p4.2 v11 ((1 : Int64) <<< (v6.toInt64 &&& 63))) (cwV 2 X.2.2.2.2 gX9_odds_X9_make rfl rfl rfl (by decide +kernel) ⟨Nat.le_of_ble_eq_true rfl, Nat.le_of_ble_eq_true rfl⟩) (hw.recv (by decide) hm_MO rfl) rfl rfl hl.1 (Nat.le_of_ble_eq_true rfl) dX9_odds_268 (fun H locs hw hS => ?_)
                            refine tpb (fun M46 eM46 => ?_)
                            rw [← eM46] at hw
                            refine lv_aload_n X.1 X.2.1 dX9_odds_271 rfl (lv_at hl 0 rfl) ?_
                            refine cVW [] [] X hw hS (c_X9_show l G A M46 ) (cwV 0 X.2.2.2.2 gX9_odds_X9_show rfl rfl rfl (by decide +kernel) ⟨Nat.le_of_ble_eq_true rfl, Nat.le_of_ble_eq_true rfl⟩) (hw.recv (by decide) hm_MO rfl) rfl rfl hl.1 (Nat.le_of_ble_eq_true rfl) dX9_odds_272 (fun H locs hw hS => ?_)
                            refine tpb (fun M47 eM47 => ?_)
                            rw [← eM47] at hw
                            refine lv_iload X.1 X.2.1 dX9_odds_275 (lv_at hl 1 rfl) ?_
                            exact rQ X hr hlk hw hS dX9_odds_277
                          · skip
                            have t48 : v13.toInt < (1 <<< (v6 &&& 31)).toInt := i_nle c44
                            refine lv_lconst (v := 0) X.1 X.2.1 dX9_odds_161 (by decide) ?_
                            refine lv_lstore (lv' := [(14, .long 0), (0, .ref (G.2.2 0)), (6, .int v6), (7, .long v7), (9, .long v9), (11, .long v11), (13, .int v13)]) X.1 X.2.1 dX9_odds_162 hl (by decide) rfl (fun ls hl => ?_)
                            refine lv_iconst (v := 0) X.1 X.2.1 dX9_odds_164 (by decide) ?_
                            refine lv_istore (lv' := [(16, .int 0), (14, .long 0), (0, .ref (G.2.2 0)), (6, .int v6), (7, .long v7), (9, .long v9), (11, .long v11), (13, .int v13)]) X.1 X.2.1 dX9_odds_165 hl (by decide) rfl (fun ls hl => ?_)
                            have L6 : ∀ (K : Int64 → Int32 × Mem) (hK6 : ∀ (y14 : Int64) , ∀ (H : Heap) (locs : List Loc), WD false G A p4.2 s H → va_S A s.heap H locs → ∀ ls : Array Slot, lv_has ls 19 [(0, .ref (G.2.2 0)), (6, .int v6), (7, .long v7), (9, .long v9), (11, .long v11), (13, .int v13), (14, .long y14)] → W p l e ({ frames := 7, cells := 0, slots := 0, locals := 192 } : Room) s m ([.ref (G.2.2 0), .int a1, .int a2, .int a3, .int a4] : List Value).toArray below meth c H locs 0 0 (TQi false G A below ([.ref (G.2.2 0), .int a1, .int a2, .int a3, .int a4] : List Value).toArray s (K y14)) (F0 m 224 ls [])) (n6 : Nat) (u14 : Int64) (u16 : Int32) (hm6 : (8 - u16.toInt : Int).toNat < n6) (hi6_0 : 0 ≤ u16.toInt), ∀ (H : Heap) (locs : List Loc), WD false G A p4.2 s H → va_S A s.heap H locs → ∀ ls : Array Slot, lv_has ls 19 [(0, .ref (G.2.2 0)), (6, .int v6), (7, .long v7), (9, .long v9), (11, .long v11), (13, .int v13), (14, .long u14), (16, .int u16)] → W p l e ({ frames := 7, cells := 0, slots := 0, locals := 192 } : Room) s m ([.ref (G.2.2 0), .int a1, .int a2, .int a3, .int a4] : List Value).toArray below meth c H locs 0 0 (TQi false G A below ([.ref (G.2.2 0), .int a1, .int a2, .int a3, .int a4] : List Value).toArray s (f_X9_odds_167 K n6 p4.2 v6 v7 v9 v11 v13 u14 u16)) (F0 m 167 ls []) := by
                              intro K hK6 n6
                              induction n6 with
                              | zero => intro u14 u16 hm6 hi6_0; exact absurd hm6 (by omega)
                              | succ n6 ih6 =>
                                intro u14 u16 hm6 hi6_0 H locs hw hS ls hl
                                rw [f_X9_odds_167]
                                refine lv_iload X.1 X.2.1 dX9_odds_167 (lv_at hl 7 rfl) ?_
                                refine lv_iload X.1 X.2.1 dX9_odds_169 (lv_at hl 1 rfl) ?_
                                refine bi_ge (tgt := 224) X dX9_odds_171 (by decide) (fun c49 => ?_) (fun c49 => ?_)
                                · skip
                                  have t50 : v6.toInt ≤ u16.toInt := i_le c49
                                  exact hK6 u14 _ _ hw hS ls (lv_sub hl [0, 1, 2, 3, 4, 5, 6] rfl)
                                · skip
                                  have t51 : u16.toInt < v6.toInt := i_nle c49
                                  refine lv_aload_n X.1 X.2.1 dX9_odds_174 rfl (lv_at hl 0 rfl) ?_
                                  refine gF X hw (by decide) hm_MO rfl (by decide +kernel) 8 (by decide) (ref := "RankBenchModel") rfl (by decide +kernel) rfl dX9_odds_175 ?_
                                  refine lv_iload X.1 X.2.1 dX9_odds_178 (lv_at hl 7 rfl) ?_
                                  refine aL X hw (by decide) hm_mp (vp_in_iff.mpr ⟨by omega, by omega⟩) dX9_odds_180 ?_
                                  refine lv_lload X.1 X.2.1 dX9_odds_181 (lv_at hl 2 rfl) ?_
                                  refine lv_aload_n X.1 X.2.1 dX9_odds_183 rfl (lv_at hl 0 rfl) ?_
                                  refine gF X hw (by decide) hm_MO rfl (by decide +kernel) 9 (by decide) (ref := "RankBenchModel") rfl (by decide +kernel) rfl dX9_odds_184 ?_
                                  refine lv_iload X.1 X.2.1 dX9_odds_187 (lv_at hl 7 rfl) ?_
                                  refine aL X hw (by decide) hm_mb (vp_in_iff.mpr ⟨by omega, by omega⟩) dX9_odds_189 ?_
                                  refine lv_ldiv X.1 X.2.1 dX9_odds_190 (bt_nz (by assumption) (by omega) (by omega)) ?_
                                  refine lv_lmul X.1 X.2.1 dX9_odds_191 ?_
                                  refine tnl (fun w52 ew52 => ?_)
                                  refine lv_lstore (lv' := [(17, .long w52), (0, .ref (G.2.2 0)), (6, .int v6), (7, .long v7), (9, .long v9), (11, .long v11), (13, .int v13), (14, .long u14), (16, .int u16)]) X.1 X.2.1 dX9_odds_192 hl (by decide) rfl (fun ls hl => ?_)
                                  refine lv_lload X.1 X.2.1 dX9_odds_194 (lv_at hl 7 rfl) ?_
                                  refine lv_iload X.1 X.2.1 dX9_odds_196 (lv_at hl 6 rfl) ?_
                                  refine lv_iload X.1 X.2.1 dX9_odds_198 (lv_at hl 8 rfl) ?_
                                  refine lv_ishr X.1 X.2.1 dX9_odds_200 ?_
                                  refine lv_iconst (v := 1) X.1 X.2.1 dX9_odds_201 (by decide) ?_
                                  refine lv_iand X.1 X.2.1 dX9_odds_202 ?_
                                  refine lv_iconst (v := 1) X.1 X.2.1 dX9_odds_203 (by decide) ?_
                                  refine bi_ne (tgt := 213) X dX9_odds_204 (by decide) (fun c53 => ?_) (fun c53 => ?_)
                                  · skip
                                    have t54 : ¬ ((v13 >>> (u16 &&& 31)) &&& 1).toInt = 1 := i_ne c53
                                    refine lv_lload X.1 X.2.1 dX9_odds_213 (lv_at hl 0 rfl) ?_
                                    refine lv_ladd X.1 X.2.1 dX9_odds_215 ?_
                                    refine tnl (fun w55 ew55 => ?_)
                                    refine lv_lstore (lv' := [(14, .long w55), (17, .long w52), (0, .ref (G.2.2 0)), (6, .int v6), (7, .long v7), (9, .long v9), (11, .long v11), (13, .int v13), (16, .int u16)]) X.1 X.2.1 dX9_odds_216 hl (by decide) rfl (fun ls hl => ?_)
                                    refine lv_iinc (v := (u16 + 1)) (lv' := [(16, .int (u16 + 1)), (14, .long w55), (17, .long w52), (0, .ref (G.2.2 0)), (6, .int v6), (7, .long v7), (9, .long v9), (11, .long v11), (13, .int v13)]) X.1 X.2.1 dX9_odds_218 hl (k := 8) rfl rfl (by decide) rfl (fun ls hl => ?_)
                                    refine lv_goto (tgt := 167) X.1 X.2.1 dX9_odds_221 (by decide) ?_
                                    have q56 := inc_sp u16
                                    exact ih6 w55 (u16 + 1) (by omega) (by omega) _ _ hw hS ls (lv_sub hl [3, 4, 5, 6, 7, 8, 1, 0] rfl)
                                  · skip
                                    have t57 : ((v13 >>> (u16 &&& 31)) &&& 1).toInt = 1 := i_eq c53
                                    refine lv_lload X.1 X.2.1 dX9_odds_207 (lv_at hl 0 rfl) ?_
                                    refine lv_lneg X.1 X.2.1 dX9_odds_209 ?_
                                    refine lv_goto (tgt := 215) X.1 X.2.1 dX9_odds_210 (by decide) ?_
                                    refine lv_ladd X.1 X.2.1 dX9_odds_215 ?_
                                    refine tnl (fun w58 ew58 => ?_)
                                    refine lv_lstore (lv' := [(14, .long w58), (17, .long w52), (0, .ref (G.2.2 0)), (6, .int v6), (7, .long v7), (9, .long v9), (11, .long v11), (13, .int v13), (16, .int u16)]) X.1 X.2.1 dX9_odds_216 hl (by decide) rfl (fun ls hl => ?_)
                                    refine lv_iinc (v := (u16 + 1)) (lv' := [(16, .int (u16 + 1)), (14, .long w58), (17, .long w52), (0, .ref (G.2.2 0)), (6, .int v6), (7, .long v7), (9, .long v9), (11, .long v11), (13, .int v13)]) X.1 X.2.1 dX9_odds_218 hl (k := 8) rfl rfl (by decide) rfl (fun ls hl => ?_)
                                    refine lv_goto (tgt := 167) X.1 X.2.1 dX9_odds_221 (by decide) ?_
                                    have q59 := inc_sp u16
                                    exact ih6 w58 (u16 + 1) (by omega) (by omega) _ _ hw hS ls (lv_sub hl [3, 4, 5, 6, 7, 8, 1, 0] rfl)
                            refine L6 _ (fun y14 H locs hw hS ls hl => ?_) 9 0 0 (by decide) (by first | omega | decide) _ _ hw hS ls (lv_sub hl [2, 3, 4, 5, 6, 7, 1, 0] rfl)
                            refine lv_lload X.1 X.2.1 dX9_odds_224 (lv_at hl 4 rfl) ?_
                            refine lv_lload X.1 X.2.1 dX9_odds_226 (lv_at hl 6 rfl) ?_
                            refine lv_lconst (v := 0) X.1 X.2.1 dX9_odds_228 (by decide) ?_
                            refine bl_ge (tgt := 239) X dX9_odds_229 dX9_odds_230 (by decide) (fun c60 => ?_) (fun c60 => ?_)
                            · skip
                              refine lv_lload X.1 X.2.1 dX9_odds_239 (lv_at hl 6 rfl) ?_
                              refine lv_lload X.1 X.2.1 dX9_odds_241 (lv_at hl 3 rfl) ?_
                              refine bl_lt (tgt := 251) X dX9_odds_243 dX9_odds_244 (by decide) (fun c61 => ?_) (fun c61 => ?_)
                              · skip
                                refine lv_lconst (v := 0) X.1 X.2.1 dX9_odds_251 (by decide) ?_
                                refine lv_ladd X.1 X.2.1 dX9_odds_252 ?_
                                refine tnl (fun w62 ew62 => ?_)
                                refine lv_lstore (lv' := [(11, .long w62), (0, .ref (G.2.2 0)), (6, .int v6), (7, .long v7), (9, .long v9), (13, .int v13), (14, .long y14)]) X.1 X.2.1 dX9_odds_253 hl (by decide) rfl (fun ls hl => ?_)
                                refine lv_iinc (v := (v13 + 1)) (lv' := [(13, .int (v13 + 1)), (11, .long w62), (0, .ref (G.2.2 0)), (6, .int v6), (7, .long v7), (9, .long v9), (14, .long y14)]) X.1 X.2.1 dX9_odds_255 hl (k := 5) rfl rfl (by decide) rfl (fun ls hl => ?_)
                                refine lv_goto (tgt := 152) X.1 X.2.1 dX9_odds_258 (by decide) ?_
                                have q63 := inc_sp v13
                                have qrg := i_rg (1 <<< (v6 &&& 31))
                                exact ih5 v6 v7 v9 w62 (v13 + 1) (by omega) (by omega) (by assumption) _ _ hw hS ls (lv_sub hl [2, 3, 4, 5, 1, 0] rfl)
                              · skip
                                refine lv_lconst (v := 1) X.1 X.2.1 dX9_odds_247 (by decide) ?_
                                refine lv_goto (tgt := 252) X.1 X.2.1 dX9_odds_248 (by decide) ?_
                                refine lv_ladd X.1 X.2.1 dX9_odds_252 ?_
                                refine tnl (fun w64 ew64 => ?_)
                                refine lv_lstore (lv' := [(11, .long w64), (0, .ref (G.2.2 0)), (6, .int v6), (7, .long v7), (9, .long v9), (13, .int v13), (14, .long y14)]) X.1 X.2.1 dX9_odds_253 hl (by decide) rfl (fun ls hl => ?_)
                                refine lv_iinc (v := (v13 + 1)) (lv' := [(13, .int (v13 + 1)), (11, .long w64), (0, .ref (G.2.2 0)), (6, .int v6), (7, .long v7), (9, .long v9), (14, .long y14)]) X.1 X.2.1 dX9_odds_255 hl (k := 5) rfl rfl (by decide) rfl (fun ls hl => ?_)
                                refine lv_goto (tgt := 152) X.1 X.2.1 dX9_odds_258 (by decide) ?_
                                have q65 := inc_sp v13
                                have qrg := i_rg (1 <<< (v6 &&& 31))
                                exact ih5 v6 v7 v9 w64 (v13 + 1) (by omega) (by omega) (by assumption) _ _ hw hS ls (lv_sub hl [2, 3, 4, 5, 1, 0] rfl)
                            · skip
                              refine lv_lload X.1 X.2.1 dX9_odds_233 (lv_at hl 6 rfl) ?_
                              refine lv_lneg X.1 X.2.1 dX9_odds_235 ?_
                              refine lv_goto (tgt := 241) X.1 X.2.1 dX9_odds_236 (by decide) ?_
                              refine lv_lload X.1 X.2.1 dX9_odds_241 (lv_at hl 3 rfl) ?_
                              refine bl_lt (tgt := 251) X dX9_odds_243 dX9_odds_244 (by decide) (fun c66 => ?_) (fun c66 => ?_)
                              · skip
                                refine lv_lconst (v := 0) X.1 X.2.1 dX9_odds_251 (by decide) ?_
                                refine lv_ladd X.1 X.2.1 dX9_odds_252 ?_
                                refine tnl (fun w67 ew67 => ?_)
                                refine lv_lstore (lv' := [(11, .long w67), (0, .ref (G.2.2 0)), (6, .int v6), (7, .long v7), (9, .long v9), (13, .int v13), (14, .long y14)]) X.1 X.2.1 dX9_odds_253 hl (by decide) rfl (fun ls hl => ?_)
                                refine lv_iinc (v := (v13 + 1)) (lv' := [(13, .int (v13 + 1)), (11, .long w67), (0, .ref (G.2.2 0)), (6, .int v6), (7, .long v7), (9, .long v9), (14, .long y14)]) X.1 X.2.1 dX9_odds_255 hl (k := 5) rfl rfl (by decide) rfl (fun ls hl => ?_)
                                refine lv_goto (tgt := 152) X.1 X.2.1 dX9_odds_258 (by decide) ?_
                                have q68 := inc_sp v13
                                have qrg := i_rg (1 <<< (v6 &&& 31))
                                exact ih5 v6 v7 v9 w67 (v13 + 1) (by omega) (by omega) (by assumption) _ _ hw hS ls (lv_sub hl [2, 3, 4, 5, 1, 0] rfl)
                              · skip
                                refine lv_lconst (v := 1) X.1 X.2.1 dX9_odds_247 (by decide) ?_
                                refine lv_goto (tgt := 252) X.1 X.2.1 dX9_odds_248 (by decide) ?_
                                refine lv_ladd X.1 X.2.1 dX9_odds_252 ?_
                                refine tnl (fun w69 ew69 => ?_)
                                refine lv_lstore (lv' := [(11, .long w69), (0, .ref (G.2.2 0)), (6, .int v6), (7, .long v7), (9, .long v9), (13, .int v13), (14, .long y14)]) X.1 X.2.1 dX9_odds_253 hl (by decide) rfl (fun ls hl => ?_)
                                refine lv_iinc (v := (v13 + 1)) (lv' := [(13, .int (v13 + 1)), (11, .long w69), (0, .ref (G.2.2 0)), (6, .int v6), (7, .long v7), (9, .long v9), (14, .long y14)]) X.1 X.2.1 dX9_odds_255 hl (k := 5) rfl rfl (by decide) rfl (fun ls hl => ?_)
                                refine lv_goto (tgt := 152) X.1 X.2.1 dX9_odds_258 (by decide) ?_
                                have q70 := inc_sp v13
                                have qrg := i_rg (1 <<< (v6 &&& 31))
                                exact ih5 v6 v7 v9 w69 (v13 + 1) (by omega) (by omega) (by assumption) _ _ hw hS ls (lv_sub hl [2, 3, 4, 5, 1, 0] rfl)
                      exact L5 (((1 <<< (v6 &&& 31) : Int32).toInt - 0 : Int).toNat + 1) v6 v7 w43 0 0 (Nat.lt_succ_self _) (by first | omega | decide) (by assumption) _ _ hw hS ls (lv_sub hl [3, 4, 5, 2, 1, 0] rfl)
                  · skip
                    have t71 : v11.toInt < v6.toInt := i_nle c13
                    refine lv_lload X.1 X.2.1 dX9_odds_100 (lv_at hl 3 rfl) ?_
                    refine lv_aload_n X.1 X.2.1 dX9_odds_102 rfl (lv_at hl 0 rfl) ?_
                    refine gF X hw (by decide) hm_MO rfl (by decide +kernel) 8 (by decide) (ref := "RankBenchModel") rfl (by decide +kernel) rfl dX9_odds_103 ?_
                    refine lv_iload X.1 X.2.1 dX9_odds_106 (lv_at hl 4 rfl) ?_
                    refine aL X hw (by decide) hm_mp (vp_in_iff.mpr ⟨by omega, by omega⟩) dX9_odds_108 ?_
                    refine lv_lload X.1 X.2.1 dX9_odds_109 (lv_at hl 2 rfl) ?_
                    refine lv_aload_n X.1 X.2.1 dX9_odds_111 rfl (lv_at hl 0 rfl) ?_
                    refine gF X hw (by decide) hm_MO rfl (by decide +kernel) 9 (by decide) (ref := "RankBenchModel") rfl (by decide +kernel) rfl dX9_odds_112 ?_
                    refine lv_iload X.1 X.2.1 dX9_odds_115 (lv_at hl 4 rfl) ?_
                    refine aL X hw (by decide) hm_mb (vp_in_iff.mpr ⟨by omega, by omega⟩) dX9_odds_117 ?_
                    refine lv_ldiv X.1 X.2.1 dX9_odds_118 (bt_nz (by assumption) (by omega) (by omega)) ?_
                    refine lv_lmul X.1 X.2.1 dX9_odds_119 ?_
                    refine lv_ladd X.1 X.2.1 dX9_odds_120 ?_
                    refine tnl (fun w72 ew72 => ?_)
                    refine lv_lstore (lv' := [(9, .long w72), (0, .ref (G.2.2 0)), (6, .int v6), (7, .long v7), (11, .int v11)]) X.1 X.2.1 dX9_odds_121 hl (by decide) rfl (fun ls hl => ?_)
                    refine lv_iinc (v := (v11 + 1)) (lv' := [(11, .int (v11 + 1)), (9, .long w72), (0, .ref (G.2.2 0)), (6, .int v6), (7, .long v7)]) X.1 X.2.1 dX9_odds_123 hl (k := 4) rfl rfl (by decide) rfl (fun ls hl => ?_)
                    refine lv_goto (tgt := 93) X.1 X.2.1 dX9_odds_126 (by decide) ?_
                    have q73 := inc_sp v11
                    exact ih2 v6 v7 w72 (v11 + 1) (by omega) (by omega) (by omega) (by assumption) _ _ hw hS ls (lv_sub hl [2, 3, 4, 1, 0] rfl)
              exact L2 9 v6 v7 0 0 (by decide) (by first | omega | decide) (by first | omega | decide) (by assumption) _ _ hw hS ls (lv_sub hl [2, 3, 4, 1, 0] rfl)
            · skip
              have t74 : v9.toInt < v6.toInt := i_nle c11
              refine lv_lload X.1 X.2.1 dX9_odds_56 (lv_at hl 2 rfl) ?_
              refine lv_lload X.1 X.2.1 dX9_odds_58 (lv_at hl 2 rfl) ?_
              refine lv_aload_n X.1 X.2.1 dX9_odds_60 rfl (lv_at hl 0 rfl) ?_
              refine gF X hw (by decide) hm_MO rfl (by decide +kernel) 9 (by decide) (ref := "RankBenchModel") rfl (by decide +kernel) rfl dX9_odds_61 ?_
              refine lv_iload X.1 X.2.1 dX9_odds_64 (lv_at hl 3 rfl) ?_
              refine aL X hw (by decide) hm_mb (vp_in_iff.mpr ⟨by omega, by omega⟩) dX9_odds_66 ?_
              refine cSL [.long v7, .long (p4.2.2 6 v9.toNatClampNeg)] [.long v7] X hw (c_X9_common l G A p4.2 v7 (p4.2.2 6 v9.toNatClampNeg)) (va_cwS 2 X.2.2.2.2 gX9_odds_X9_common rfl rfl rfl (by decide +kernel) ⟨Nat.le_of_ble_eq_true rfl, Nat.le_of_ble_eq_true rfl⟩)  rfl rfl hl.1 (Nat.le_of_ble_eq_true rfl) dX9_odds_67 ?_
              refine tnl (fun r75 er75 => ?_)
              refine lv_ldiv X.1 X.2.1 dX9_odds_70 (ne_of er75 (cm_ne _ _ (bt_nz (by assumption) (by omega) (by omega)))) ?_
              refine lv_aload_n X.1 X.2.1 dX9_odds_71 rfl (lv_at hl 0 rfl) ?_
              refine gF X hw (by decide) hm_MO rfl (by decide +kernel) 9 (by decide) (ref := "RankBenchModel") rfl (by decide +kernel) rfl dX9_odds_72 ?_
              refine lv_iload X.1 X.2.1 dX9_odds_75 (lv_at hl 3 rfl) ?_
              refine aL X hw (by decide) hm_mb (vp_in_iff.mpr ⟨by omega, by omega⟩) dX9_odds_77 ?_
              refine lv_lmul X.1 X.2.1 dX9_odds_78 ?_
              refine tnl (fun w76 ew76 => ?_)
              refine lv_lstore (lv' := [(7, .long w76), (0, .ref (G.2.2 0)), (6, .int v6), (9, .int v9)]) X.1 X.2.1 dX9_odds_79 hl (by decide) rfl (fun ls hl => ?_)
              refine lv_iinc (v := (v9 + 1)) (lv' := [(9, .int (v9 + 1)), (7, .long w76), (0, .ref (G.2.2 0)), (6, .int v6)]) X.1 X.2.1 dX9_odds_81 hl (k := 3) rfl rfl (by decide) rfl (fun ls hl => ?_)
              refine lv_goto (tgt := 49) X.1 X.2.1 dX9_odds_84 (by decide) ?_
              have q77 := inc_sp v9
              exact ih1 v6 w76 (v9 + 1) (by omega) (by omega) (by omega) (by assumption) _ _ hw hS ls (lv_sub hl [2, 3, 1, 0] rfl)
        exact L1 9 x5 1 0 (by decide) (by first | omega | decide) (by first | omega | decide) zd2 _ _ hw hS ls (lv_sub hl [4, 2, 1, 0] rfl)
      · skip
        have t78 : x5.toInt = 0 := i_eq c9
        refine lv_bipush (v := (-3)) X.1 X.2.1 dX9_odds_40 (by decide) ?_
        exact rQ X hr hlk hw hS dX9_odds_42
  · skip
    have t79 : r1.toInt < 0 := i_nle c2
    refine lv_iload X.1 X.2.1 dX9_odds_16 (lv_at hl 0 rfl) ?_
    exact rQ X hr hlk hw hS dX9_odds_18

def f_X9_wins_63 : Nat → Mem → Int32 → Int32 → Int32 → Int32 → Int32 × Mem
  | 0, M, _, _, _, _ => (0, M)
  | n1 + 1, M, v5, v7, v8, v9 => if v7 ≤ v9 then (v8, M) else (if v5 = 0 then (if (0 : Int64) < (M.2 5 v9.toNatClampNeg) then (bnd (v8 + 1) (fun x52 => f_X9_wins_63 n1 M v5 v7 x52 (v9 + 1))) else (if v5 = 1 then (if (M.2 5 v9.toNatClampNeg) < 0 then (bnd (v8 + 1) (fun x70 => f_X9_wins_63 n1 M v5 v7 x70 (v9 + 1))) else (if v5 = 2 then (if (M.2 5 v9.toNatClampNeg) = 0 then (bnd (v8 + 1) (fun x81 => f_X9_wins_63 n1 M v5 v7 x81 (v9 + 1))) else (bnd (v8 + 0) (fun x79 => f_X9_wins_63 n1 M v5 v7 x79 (v9 + 1)))) else (bnd (v8 + 0) (fun x75 => f_X9_wins_63 n1 M v5 v7 x75 (v9 + 1))))) else (if v5 = 2 then (if (M.2 5 v9.toNatClampNeg) = 0 then (bnd (v8 + 1) (fun x65 => f_X9_wins_63 n1 M v5 v7 x65 (v9 + 1))) else (bnd (v8 + 0) (fun x63 => f_X9_wins_63 n1 M v5 v7 x63 (v9 + 1)))) else (bnd (v8 + 0) (fun x59 => f_X9_wins_63 n1 M v5 v7 x59 (v9 + 1)))))) else (if v5 = 1 then (if (M.2 5 v9.toNatClampNeg) < 0 then (bnd (v8 + 1) (fun x36 => f_X9_wins_63 n1 M v5 v7 x36 (v9 + 1))) else (if v5 = 2 then (if (M.2 5 v9.toNatClampNeg) = 0 then (bnd (v8 + 1) (fun x47 => f_X9_wins_63 n1 M v5 v7 x47 (v9 + 1))) else (bnd (v8 + 0) (fun x45 => f_X9_wins_63 n1 M v5 v7 x45 (v9 + 1)))) else (bnd (v8 + 0) (fun x41 => f_X9_wins_63 n1 M v5 v7 x41 (v9 + 1))))) else (if v5 = 2 then (if (M.2 5 v9.toNatClampNeg) = 0 then (bnd (v8 + 1) (fun x31 => f_X9_wins_63 n1 M v5 v7 x31 (v9 + 1))) else (bnd (v8 + 0) (fun x29 => f_X9_wins_63 n1 M v5 v7 x29 (v9 + 1)))) else (bnd (v8 + 0) (fun x25 => f_X9_wins_63 n1 M v5 v7 x25 (v9 + 1))))))
def f_X9_wins (M : Mem) (a1 : Int32) (a2 : Int32) (a3 : Int32) (a4 : Int32) (a5 : Int32) : Int32 × Mem := bnd (f_X9_refused a1 a2 a3 a4) (fun r1 => if (0 : Int32) ≤ r1 then (if a5 < 0 then ((-2), M) else (if a5 ≤ 2 then (bnd (f_X9_differences M a1 a2 a3 a4) (fun p9 => bnd p9.1 (fun x10 => if a1 = a2 then ((-3), p9.2) else (if x10 = 0 then ((-3), p9.2) else (f_X9_wins_63 9 p9.2 a5 x10 0 0))))) else ((-2), M))) else (r1, M))
set_option maxRecDepth 100000 in
set_option maxHeartbeats 4000000 in
theorem c_X9_wins (l : Launch) (G : En) (A : Nat → Prop) (M : Mem) (a1 : Int32) (a2 : Int32) (a3 : Int32) (a4 : Int32) (a5 : Int32) : WrI false l yX9_wins wsX9_wins ({ frames := 7, cells := 0, slots := 0, locals := 192 }) G A M [.ref (G.2.2 0), .int a1, .int a2, .int a3, .int a4, .int a5] (f_X9_wins M a1 a2 a3 a4 a5) := by
  refine WrI.of (cc := cX9_wins) (maxL := 10) (ret := (some .int)) (own := RX9) (by decide) rfl rfl (Nat.le_of_ble_eq_true rfl) ?_
  intro p e s m below meth c X hw hr hlk ls hl hS
  have hl : lv_has ls 10 [(0, .ref (G.2.2 0)), (1, .int a1), (2, .int a2), (3, .int a3), (4, .int a4), (5, .int a5)] := hl
  unfold f_X9_wins
  refine lv_aload_n X.1 X.2.1 dX9_wins_0 rfl (lv_at hl 0 rfl) ?_
  refine lv_iload_n X.1 X.2.1 dX9_wins_1 rfl (lv_at hl 1 rfl) ?_
  refine lv_iload_n X.1 X.2.1 dX9_wins_2 rfl (lv_at hl 2 rfl) ?_
  refine lv_iload_n X.1 X.2.1 dX9_wins_3 rfl (lv_at hl 3 rfl) ?_
  refine lv_iload X.1 X.2.1 dX9_wins_4 (lv_at hl 4 rfl) ?_
  refine cVI [.int a1, .int a2, .int a3, .int a4] [] X hw (c_X9_refused l G A M a1 a2 a3 a4) (cwV 4 X.2.2.2.2 gX9_wins_X9_refused rfl rfl rfl (by decide +kernel) ⟨Nat.le_of_ble_eq_true rfl, Nat.le_of_ble_eq_true rfl⟩) (hw.recv (by decide) hm_MO rfl) rfl rfl hl.1 (Nat.le_of_ble_eq_true rfl) dX9_wins_6 ?_
  refine tni (fun r1 er1 => ?_)
  have zr1 := ref_or er1
  refine lv_istore (lv' := [(6, .int r1), (0, .ref (G.2.2 0)), (1, .int a1), (2, .int a2), (3, .int a3), (4, .int a4), (5, .int a5)]) X.1 X.2.1 dX9_wins_9 hl (by decide) rfl (fun ls hl => ?_)
  refine lv_iload X.1 X.2.1 dX9_wins_11 (lv_at hl 0 rfl) ?_
  refine bz_ge (tgt := 19) X dX9_wins_13 (by decide) (fun c2 => ?_) (fun c2 => ?_)
  · skip
    have t3 : 0 ≤ r1.toInt := i_le c2
    refine lv_iload X.1 X.2.1 dX9_wins_19 (lv_at hl 6 rfl) ?_
    refine bz_lt (tgt := 30) X dX9_wins_21 (by decide) (fun c4 => ?_) (fun c4 => ?_)
    · skip
      have t5 : a5.toInt < 0 := i_lt c4
      refine lv_bipush (v := (-2)) X.1 X.2.1 dX9_wins_30 (by decide) ?_
      exact rQ X hr hlk hw hS dX9_wins_32
    · skip
      have t6 : 0 ≤ a5.toInt := i_nlt c4
      refine lv_iload X.1 X.2.1 dX9_wins_24 (lv_at hl 6 rfl) ?_
      refine lv_iconst (v := 2) X.1 X.2.1 dX9_wins_26 (by decide) ?_
      refine bi_le (tgt := 33) X dX9_wins_27 (by decide) (fun c7 => ?_) (fun c7 => ?_)
      · skip
        have t8 : a5.toInt ≤ 2 := i_le c7
        refine lv_aload_n X.1 X.2.1 dX9_wins_33 rfl (lv_at hl 1 rfl) ?_
        refine lv_iload_n X.1 X.2.1 dX9_wins_34 rfl (lv_at hl 2 rfl) ?_
        refine lv_iload_n X.1 X.2.1 dX9_wins_35 rfl (lv_at hl 3 rfl) ?_
        refine lv_iload_n X.1 X.2.1 dX9_wins_36 rfl (lv_at hl 4 rfl) ?_
        refine lv_iload X.1 X.2.1 dX9_wins_37 (lv_at hl 5 rfl) ?_
        refine cVJ [.int a1, .int a2, .int a3, .int a4] [] X hw hS (c_X9_differences l G A M a1 a2 a3 a4 (by omega) (by omega) (by omega)) (cwV 4 X.2.2.2.2 gX9_wins_X9_differences rfl rfl rfl (by decide +kernel) ⟨Nat.le_of_ble_eq_true rfl, Nat.le_of_ble_eq_true rfl⟩) (hw.recv (by decide) hm_MO rfl) rfl rfl hl.1 (Nat.le_of_ble_eq_true rfl) dX9_wins_39 (fun H locs hw hS => ?_)
        refine tpb (fun p9 ep9 => ?_)
        rw [← ep9] at hw
        rw [← ep9]
        have zd := df_ok M a1 a2 a3 a4
        rw [← ep9] at zd
        obtain ⟨zd1, zd2⟩ := zd
        refine tni (fun x10 ex10 => ?_)
        rw [← ex10] at zd1 zd2
        refine lv_istore (lv' := [(7, .int x10), (6, .int r1), (0, .ref (G.2.2 0)), (1, .int a1), (2, .int a2), (3, .int a3), (4, .int a4), (5, .int a5)]) X.1 X.2.1 dX9_wins_42 hl (by decide) rfl (fun ls hl => ?_)
        refine lv_iload_n X.1 X.2.1 dX9_wins_44 rfl (lv_at hl 3 rfl) ?_
        refine lv_iload_n X.1 X.2.1 dX9_wins_45 rfl (lv_at hl 4 rfl) ?_
        refine bi_eq (tgt := 54) X dX9_wins_46 (by decide) (fun c11 => ?_) (fun c11 => ?_)
        · skip
          have t12 : a1.toInt = a2.toInt := i_eq c11
          refine lv_bipush (v := (-3)) X.1 X.2.1 dX9_wins_54 (by decide) ?_
          exact rQ X hr hlk hw hS dX9_wins_56
        · skip
          have t13 : ¬ a1.toInt = a2.toInt := i_ne c11
          refine lv_iload X.1 X.2.1 dX9_wins_49 (lv_at hl 0 rfl) ?_
          refine bz_ne (tgt := 57) X dX9_wins_51 (by decide) (fun c14 => ?_) (fun c14 => ?_)
          · skip
            have t15 : ¬ x10.toInt = 0 := i_ne c14
            refine lv_iconst (v := 0) X.1 X.2.1 dX9_wins_57 (by decide) ?_
            refine lv_istore (lv' := [(8, .int 0), (7, .int x10), (6, .int r1), (0, .ref (G.2.2 0)), (1, .int a1), (2, .int a2), (3, .int a3), (4, .int a4), (5, .int a5)]) X.1 X.2.1 dX9_wins_58 hl (by decide) rfl (fun ls hl => ?_)
            refine lv_iconst (v := 0) X.1 X.2.1 dX9_wins_60 (by decide) ?_
            refine lv_istore (lv' := [(9, .int 0), (8, .int 0), (7, .int x10), (6, .int r1), (0, .ref (G.2.2 0)), (1, .int a1), (2, .int a2), (3, .int a3), (4, .int a4), (5, .int a5)]) X.1 X.2.1 dX9_wins_61 hl (by decide) rfl (fun ls hl => ?_)
            have L1 : ∀ (n1 : Nat) (v5 : Int32) (v7 : Int32) (v8 : Int32) (v9 : Int32)  (hm1 : (8 - v9.toInt : Int).toNat < n1) (hi1_0 : 0 ≤ v9.toInt) (hi1_1 : v7.toInt ≤ 8), ∀ (H : Heap) (locs : List Loc), WD false G A p9.2 s H → va_S A s.heap H locs → ∀ ls : Array Slot, lv_has ls 10 [(0, .ref (G.2.2 0)), (5, .int v5), (7, .int v7), (8, .int v8), (9, .int v9)] → W p l e ({ frames := 7, cells := 0, slots := 0, locals := 192 } : Room) s m ([.ref (G.2.2 0), .int a1, .int a2, .int a3, .int a4, .int a5] : List Value).toArray below meth c H locs 0 0 (TQi false G A below ([.ref (G.2.2 0), .int a1, .int a2, .int a3, .int a4, .int a5] : List Value).toArray s (f_X9_wins_63 n1 p9.2 v5 v7 v8 v9)) (F0 m 63 ls []) := by
              intro n1
              induction n1 with
              | zero => intro v5 v7 v8 v9 hm1 hi1_0 hi1_1; exact absurd hm1 (by omega)
              | succ n1 ih1 =>
                intro v5 v7 v8 v9 hm1 hi1_0 hi1_1 H locs hw hS ls hl
                rw [f_X9_wins_63]
                refine lv_iload X.1 X.2.1 dX9_wins_63 (lv_at hl 4 rfl) ?_
                refine lv_iload X.1 X.2.1 dX9_wins_65 (lv_at hl 2 rfl) ?_
                refine bi_ge (tgt := 139) X dX9_wins_67 (by decide) (fun c16 => ?_) (fun c16 => ?_)
                · skip
                  have t17 : v7.toInt ≤ v9.toInt := i_le c16
                  refine lv_iload X.1 X.2.1 dX9_wins_139 (lv_at hl 3 rfl) ?_
                  exact rQ X hr hlk hw hS dX9_wins_141
                · skip
                  have t18 : v9.toInt < v7.toInt := i_nle c16
                  refine lv_iload X.1 X.2.1 dX9_wins_70 (lv_at hl 3 rfl) ?_
                  refine lv_iload X.1 X.2.1 dX9_wins_72 (lv_at hl 1 rfl) ?_
                  refine bz_ne (tgt := 89) X dX9_wins_74 (by decide) (fun c19 => ?_) (fun c19 => ?_)
                  · skip
                    have t20 : ¬ v5.toInt = 0 := i_ne c19
                    refine lv_iload X.1 X.2.1 dX9_wins_89 (lv_at hl 1 rfl) ?_
                    refine lv_iconst (v := 1) X.1 X.2.1 dX9_wins_91 (by decide) ?_
                    refine bi_ne (tgt := 107) X dX9_wins_92 (by decide) (fun c21 => ?_) (fun c21 => ?_)
                    · skip
                      have t22 : ¬ v5.toInt = 1 := i_ne c21
                      refine lv_iload X.1 X.2.1 dX9_wins_107 (lv_at hl 1 rfl) ?_
                      refine lv_iconst (v := 2) X.1 X.2.1 dX9_wins_109 (by decide) ?_
                      refine bi_ne (tgt := 129) X dX9_wins_110 (by decide) (fun c23 => ?_) (fun c23 => ?_)
                      · skip
                        have t24 : ¬ v5.toInt = 2 := i_ne c23
                        refine lv_iconst (v := 0) X.1 X.2.1 dX9_wins_129 (by decide) ?_
                        refine lv_iadd X.1 X.2.1 dX9_wins_130 ?_
                        refine tni (fun x25 ex25 => ?_)
                        refine lv_istore (lv' := [(8, .int x25), (0, .ref (G.2.2 0)), (5, .int v5), (7, .int v7), (9, .int v9)]) X.1 X.2.1 dX9_wins_131 hl (by decide) rfl (fun ls hl => ?_)
                        refine lv_iinc (v := (v9 + 1)) (lv' := [(9, .int (v9 + 1)), (8, .int x25), (0, .ref (G.2.2 0)), (5, .int v5), (7, .int v7)]) X.1 X.2.1 dX9_wins_133 hl (k := 4) rfl rfl (by decide) rfl (fun ls hl => ?_)
                        refine lv_goto (tgt := 63) X.1 X.2.1 dX9_wins_136 (by decide) ?_
                        have q26 := inc_sp v9
                        exact ih1 v5 v7 x25 (v9 + 1) (by omega) (by omega) (by omega) _ _ hw hS ls (lv_sub hl [2, 3, 4, 1, 0] rfl)
                      · skip
                        have t27 : v5.toInt = 2 := i_eq c23
                        refine lv_aload_n X.1 X.2.1 dX9_wins_113 rfl (lv_at hl 0 rfl) ?_
                        refine gF X hw (by decide) hm_MO rfl (by decide +kernel) 8 (by decide) (ref := "RankBenchModel") rfl (by decide +kernel) rfl dX9_wins_114 ?_
                        refine lv_iload X.1 X.2.1 dX9_wins_117 (lv_at hl 4 rfl) ?_
                        refine aL X hw (by decide) hm_mp (vp_in_iff.mpr ⟨by omega, by omega⟩) dX9_wins_119 ?_
                        refine lv_lconst (v := 0) X.1 X.2.1 dX9_wins_120 (by decide) ?_
                        refine bl_ne (tgt := 129) X dX9_wins_121 dX9_wins_122 (by decide) (fun c28 => ?_) (fun c28 => ?_)
                        · skip
                          refine lv_iconst (v := 0) X.1 X.2.1 dX9_wins_129 (by decide) ?_
                          refine lv_iadd X.1 X.2.1 dX9_wins_130 ?_
                          refine tni (fun x29 ex29 => ?_)
                          refine lv_istore (lv' := [(8, .int x29), (0, .ref (G.2.2 0)), (5, .int v5), (7, .int v7), (9, .int v9)]) X.1 X.2.1 dX9_wins_131 hl (by decide) rfl (fun ls hl => ?_)
                          refine lv_iinc (v := (v9 + 1)) (lv' := [(9, .int (v9 + 1)), (8, .int x29), (0, .ref (G.2.2 0)), (5, .int v5), (7, .int v7)]) X.1 X.2.1 dX9_wins_133 hl (k := 4) rfl rfl (by decide) rfl (fun ls hl => ?_)
                          refine lv_goto (tgt := 63) X.1 X.2.1 dX9_wins_136 (by decide) ?_
                          have q30 := inc_sp v9
                          exact ih1 v5 v7 x29 (v9 + 1) (by omega) (by omega) (by omega) _ _ hw hS ls (lv_sub hl [2, 3, 4, 1, 0] rfl)
                        · skip
                          refine lv_iconst (v := 1) X.1 X.2.1 dX9_wins_125 (by decide) ?_
                          refine lv_goto (tgt := 130) X.1 X.2.1 dX9_wins_126 (by decide) ?_
                          refine lv_iadd X.1 X.2.1 dX9_wins_130 ?_
                          refine tni (fun x31 ex31 => ?_)
                          have q32 := inc_sp v8
                          rw [← ex31] at q32
                          refine lv_istore (lv' := [(8, .int x31), (0, .ref (G.2.2 0)), (5, .int v5), (7, .int v7), (9, .int v9)]) X.1 X.2.1 dX9_wins_131 hl (by decide) rfl (fun ls hl => ?_)
                          refine lv_iinc (v := (v9 + 1)) (lv' := [(9, .int (v9 + 1)), (8, .int x31), (0, .ref (G.2.2 0)), (5, .int v5), (7, .int v7)]) X.1 X.2.1 dX9_wins_133 hl (k := 4) rfl rfl (by decide) rfl (fun ls hl => ?_)
                          refine lv_goto (tgt := 63) X.1 X.2.1 dX9_wins_136 (by decide) ?_
                          have q33 := inc_sp v9
                          exact ih1 v5 v7 x31 (v9 + 1) (by omega) (by omega) (by omega) _ _ hw hS ls (lv_sub hl [2, 3, 4, 1, 0] rfl)
                    · skip
                      have t34 : v5.toInt = 1 := i_eq c21
                      refine lv_aload_n X.1 X.2.1 dX9_wins_95 rfl (lv_at hl 0 rfl) ?_
                      refine gF X hw (by decide) hm_MO rfl (by decide +kernel) 8 (by decide) (ref := "RankBenchModel") rfl (by decide +kernel) rfl dX9_wins_96 ?_
                      refine lv_iload X.1 X.2.1 dX9_wins_99 (lv_at hl 4 rfl) ?_
                      refine aL X hw (by decide) hm_mp (vp_in_iff.mpr ⟨by omega, by omega⟩) dX9_wins_101 ?_
                      refine lv_lconst (v := 0) X.1 X.2.1 dX9_wins_102 (by decide) ?_
                      refine bl_lt (tgt := 125) X dX9_wins_103 dX9_wins_104 (by decide) (fun c35 => ?_) (fun c35 => ?_)
                      · skip
                        refine lv_iconst (v := 1) X.1 X.2.1 dX9_wins_125 (by decide) ?_
                        refine lv_goto (tgt := 130) X.1 X.2.1 dX9_wins_126 (by decide) ?_
                        refine lv_iadd X.1 X.2.1 dX9_wins_130 ?_
                        refine tni (fun x36 ex36 => ?_)
                        have q37 := inc_sp v8
                        rw [← ex36] at q37
                        refine lv_istore (lv' := [(8, .int x36), (0, .ref (G.2.2 0)), (5, .int v5), (7, .int v7), (9, .int v9)]) X.1 X.2.1 dX9_wins_131 hl (by decide) rfl (fun ls hl => ?_)
                        refine lv_iinc (v := (v9 + 1)) (lv' := [(9, .int (v9 + 1)), (8, .int x36), (0, .ref (G.2.2 0)), (5, .int v5), (7, .int v7)]) X.1 X.2.1 dX9_wins_133 hl (k := 4) rfl rfl (by decide) rfl (fun ls hl => ?_)
                        refine lv_goto (tgt := 63) X.1 X.2.1 dX9_wins_136 (by decide) ?_
                        have q38 := inc_sp v9
                        exact ih1 v5 v7 x36 (v9 + 1) (by omega) (by omega) (by omega) _ _ hw hS ls (lv_sub hl [2, 3, 4, 1, 0] rfl)
                      · skip
                        refine lv_iload X.1 X.2.1 dX9_wins_107 (lv_at hl 1 rfl) ?_
                        refine lv_iconst (v := 2) X.1 X.2.1 dX9_wins_109 (by decide) ?_
                        refine bi_ne (tgt := 129) X dX9_wins_110 (by decide) (fun c39 => ?_) (fun c39 => ?_)
                        · skip
                          have t40 : ¬ v5.toInt = 2 := i_ne c39
                          refine lv_iconst (v := 0) X.1 X.2.1 dX9_wins_129 (by decide) ?_
                          refine lv_iadd X.1 X.2.1 dX9_wins_130 ?_
                          refine tni (fun x41 ex41 => ?_)
                          refine lv_istore (lv' := [(8, .int x41), (0, .ref (G.2.2 0)), (5, .int v5), (7, .int v7), (9, .int v9)]) X.1 X.2.1 dX9_wins_131 hl (by decide) rfl (fun ls hl => ?_)
                          refine lv_iinc (v := (v9 + 1)) (lv' := [(9, .int (v9 + 1)), (8, .int x41), (0, .ref (G.2.2 0)), (5, .int v5), (7, .int v7)]) X.1 X.2.1 dX9_wins_133 hl (k := 4) rfl rfl (by decide) rfl (fun ls hl => ?_)
                          refine lv_goto (tgt := 63) X.1 X.2.1 dX9_wins_136 (by decide) ?_
                          have q42 := inc_sp v9
                          exact ih1 v5 v7 x41 (v9 + 1) (by omega) (by omega) (by omega) _ _ hw hS ls (lv_sub hl [2, 3, 4, 1, 0] rfl)
                        · skip
                          have t43 : v5.toInt = 2 := i_eq c39
                          refine lv_aload_n X.1 X.2.1 dX9_wins_113 rfl (lv_at hl 0 rfl) ?_
                          refine gF X hw (by decide) hm_MO rfl (by decide +kernel) 8 (by decide) (ref := "RankBenchModel") rfl (by decide +kernel) rfl dX9_wins_114 ?_
                          refine lv_iload X.1 X.2.1 dX9_wins_117 (lv_at hl 4 rfl) ?_
                          refine aL X hw (by decide) hm_mp (vp_in_iff.mpr ⟨by omega, by omega⟩) dX9_wins_119 ?_
                          refine lv_lconst (v := 0) X.1 X.2.1 dX9_wins_120 (by decide) ?_
                          refine bl_ne (tgt := 129) X dX9_wins_121 dX9_wins_122 (by decide) (fun c44 => ?_) (fun c44 => ?_)
                          · skip
                            refine lv_iconst (v := 0) X.1 X.2.1 dX9_wins_129 (by decide) ?_
                            refine lv_iadd X.1 X.2.1 dX9_wins_130 ?_
                            refine tni (fun x45 ex45 => ?_)
                            refine lv_istore (lv' := [(8, .int x45), (0, .ref (G.2.2 0)), (5, .int v5), (7, .int v7), (9, .int v9)]) X.1 X.2.1 dX9_wins_131 hl (by decide) rfl (fun ls hl => ?_)
                            refine lv_iinc (v := (v9 + 1)) (lv' := [(9, .int (v9 + 1)), (8, .int x45), (0, .ref (G.2.2 0)), (5, .int v5), (7, .int v7)]) X.1 X.2.1 dX9_wins_133 hl (k := 4) rfl rfl (by decide) rfl (fun ls hl => ?_)
                            refine lv_goto (tgt := 63) X.1 X.2.1 dX9_wins_136 (by decide) ?_
                            have q46 := inc_sp v9
                            exact ih1 v5 v7 x45 (v9 + 1) (by omega) (by omega) (by omega) _ _ hw hS ls (lv_sub hl [2, 3, 4, 1, 0] rfl)
                          · skip
                            refine lv_iconst (v := 1) X.1 X.2.1 dX9_wins_125 (by decide) ?_
                            refine lv_goto (tgt := 130) X.1 X.2.1 dX9_wins_126 (by decide) ?_
                            refine lv_iadd X.1 X.2.1 dX9_wins_130 ?_
                            refine tni (fun x47 ex47 => ?_)
                            have q48 := inc_sp v8
                            rw [← ex47] at q48
                            refine lv_istore (lv' := [(8, .int x47), (0, .ref (G.2.2 0)), (5, .int v5), (7, .int v7), (9, .int v9)]) X.1 X.2.1 dX9_wins_131 hl (by decide) rfl (fun ls hl => ?_)
                            refine lv_iinc (v := (v9 + 1)) (lv' := [(9, .int (v9 + 1)), (8, .int x47), (0, .ref (G.2.2 0)), (5, .int v5), (7, .int v7)]) X.1 X.2.1 dX9_wins_133 hl (k := 4) rfl rfl (by decide) rfl (fun ls hl => ?_)
                            refine lv_goto (tgt := 63) X.1 X.2.1 dX9_wins_136 (by decide) ?_
                            have q49 := inc_sp v9
                            exact ih1 v5 v7 x47 (v9 + 1) (by omega) (by omega) (by omega) _ _ hw hS ls (lv_sub hl [2, 3, 4, 1, 0] rfl)
                  · skip
                    have t50 : v5.toInt = 0 := i_eq c19
                    refine lv_aload_n X.1 X.2.1 dX9_wins_77 rfl (lv_at hl 0 rfl) ?_
                    refine gF X hw (by decide) hm_MO rfl (by decide +kernel) 8 (by decide) (ref := "RankBenchModel") rfl (by decide +kernel) rfl dX9_wins_78 ?_
                    refine lv_iload X.1 X.2.1 dX9_wins_81 (lv_at hl 4 rfl) ?_
                    refine aL X hw (by decide) hm_mp (vp_in_iff.mpr ⟨by omega, by omega⟩) dX9_wins_83 ?_
                    refine lv_lconst (v := 0) X.1 X.2.1 dX9_wins_84 (by decide) ?_
                    refine bl_gt (tgt := 125) X dX9_wins_85 dX9_wins_86 (by decide) (fun c51 => ?_) (fun c51 => ?_)
                    · skip
                      refine lv_iconst (v := 1) X.1 X.2.1 dX9_wins_125 (by decide) ?_
                      refine lv_goto (tgt := 130) X.1 X.2.1 dX9_wins_126 (by decide) ?_
                      refine lv_iadd X.1 X.2.1 dX9_wins_130 ?_
                      refine tni (fun x52 ex52 => ?_)
                      have q53 := inc_sp v8
                      rw [← ex52] at q53
                      refine lv_istore (lv' := [(8, .int x52), (0, .ref (G.2.2 0)), (5, .int v5), (7, .int v7), (9, .int v9)]) X.1 X.2.1 dX9_wins_131 hl (by decide) rfl (fun ls hl => ?_)
                      refine lv_iinc (v := (v9 + 1)) (lv' := [(9, .int (v9 + 1)), (8, .int x52), (0, .ref (G.2.2 0)), (5, .int v5), (7, .int v7)]) X.1 X.2.1 dX9_wins_133 hl (k := 4) rfl rfl (by decide) rfl (fun ls hl => ?_)
                      refine lv_goto (tgt := 63) X.1 X.2.1 dX9_wins_136 (by decide) ?_
                      have q54 := inc_sp v9
                      exact ih1 v5 v7 x52 (v9 + 1) (by omega) (by omega) (by omega) _ _ hw hS ls (lv_sub hl [2, 3, 4, 1, 0] rfl)
                    · skip
                      refine lv_iload X.1 X.2.1 dX9_wins_89 (lv_at hl 1 rfl) ?_
                      refine lv_iconst (v := 1) X.1 X.2.1 dX9_wins_91 (by decide) ?_
                      refine bi_ne (tgt := 107) X dX9_wins_92 (by decide) (fun c55 => ?_) (fun c55 => ?_)
                      · skip
                        have t56 : ¬ v5.toInt = 1 := i_ne c55
                        refine lv_iload X.1 X.2.1 dX9_wins_107 (lv_at hl 1 rfl) ?_
                        refine lv_iconst (v := 2) X.1 X.2.1 dX9_wins_109 (by decide) ?_
                        refine bi_ne (tgt := 129) X dX9_wins_110 (by decide) (fun c57 => ?_) (fun c57 => ?_)
                        · skip
                          have t58 : ¬ v5.toInt = 2 := i_ne c57
                          refine lv_iconst (v := 0) X.1 X.2.1 dX9_wins_129 (by decide) ?_
                          refine lv_iadd X.1 X.2.1 dX9_wins_130 ?_
                          refine tni (fun x59 ex59 => ?_)
                          refine lv_istore (lv' := [(8, .int x59), (0, .ref (G.2.2 0)), (5, .int v5), (7, .int v7), (9, .int v9)]) X.1 X.2.1 dX9_wins_131 hl (by decide) rfl (fun ls hl => ?_)
                          refine lv_iinc (v := (v9 + 1)) (lv' := [(9, .int (v9 + 1)), (8, .int x59), (0, .ref (G.2.2 0)), (5, .int v5), (7, .int v7)]) X.1 X.2.1 dX9_wins_133 hl (k := 4) rfl rfl (by decide) rfl (fun ls hl => ?_)
                          refine lv_goto (tgt := 63) X.1 X.2.1 dX9_wins_136 (by decide) ?_
                          have q60 := inc_sp v9
                          exact ih1 v5 v7 x59 (v9 + 1) (by omega) (by omega) (by omega) _ _ hw hS ls (lv_sub hl [2, 3, 4, 1, 0] rfl)
                        · skip
                          have t61 : v5.toInt = 2 := i_eq c57
                          refine lv_aload_n X.1 X.2.1 dX9_wins_113 rfl (lv_at hl 0 rfl) ?_
                          refine gF X hw (by decide) hm_MO rfl (by decide +kernel) 8 (by decide) (ref := "RankBenchModel") rfl (by decide +kernel) rfl dX9_wins_114 ?_
                          refine lv_iload X.1 X.2.1 dX9_wins_117 (lv_at hl 4 rfl) ?_
                          refine aL X hw (by decide) hm_mp (vp_in_iff.mpr ⟨by omega, by omega⟩) dX9_wins_119 ?_
                          refine lv_lconst (v := 0) X.1 X.2.1 dX9_wins_120 (by decide) ?_
                          refine bl_ne (tgt := 129) X dX9_wins_121 dX9_wins_122 (by decide) (fun c62 => ?_) (fun c62 => ?_)
                          · skip
                            refine lv_iconst (v := 0) X.1 X.2.1 dX9_wins_129 (by decide) ?_
                            refine lv_iadd X.1 X.2.1 dX9_wins_130 ?_
                            refine tni (fun x63 ex63 => ?_)
                            refine lv_istore (lv' := [(8, .int x63), (0, .ref (G.2.2 0)), (5, .int v5), (7, .int v7), (9, .int v9)]) X.1 X.2.1 dX9_wins_131 hl (by decide) rfl (fun ls hl => ?_)
                            refine lv_iinc (v := (v9 + 1)) (lv' := [(9, .int (v9 + 1)), (8, .int x63), (0, .ref (G.2.2 0)), (5, .int v5), (7, .int v7)]) X.1 X.2.1 dX9_wins_133 hl (k := 4) rfl rfl (by decide) rfl (fun ls hl => ?_)
                            refine lv_goto (tgt := 63) X.1 X.2.1 dX9_wins_136 (by decide) ?_
                            have q64 := inc_sp v9
                            exact ih1 v5 v7 x63 (v9 + 1) (by omega) (by omega) (by omega) _ _ hw hS ls (lv_sub hl [2, 3, 4, 1, 0] rfl)
                          · skip
                            refine lv_iconst (v := 1) X.1 X.2.1 dX9_wins_125 (by decide) ?_
                            refine lv_goto (tgt := 130) X.1 X.2.1 dX9_wins_126 (by decide) ?_
                            refine lv_iadd X.1 X.2.1 dX9_wins_130 ?_
                            refine tni (fun x65 ex65 => ?_)
                            have q66 := inc_sp v8
                            rw [← ex65] at q66
                            refine lv_istore (lv' := [(8, .int x65), (0, .ref (G.2.2 0)), (5, .int v5), (7, .int v7), (9, .int v9)]) X.1 X.2.1 dX9_wins_131 hl (by decide) rfl (fun ls hl => ?_)
                            refine lv_iinc (v := (v9 + 1)) (lv' := [(9, .int (v9 + 1)), (8, .int x65), (0, .ref (G.2.2 0)), (5, .int v5), (7, .int v7)]) X.1 X.2.1 dX9_wins_133 hl (k := 4) rfl rfl (by decide) rfl (fun ls hl => ?_)
                            refine lv_goto (tgt := 63) X.1 X.2.1 dX9_wins_136 (by decide) ?_
                            have q67 := inc_sp v9
                            exact ih1 v5 v7 x65 (v9 + 1) (by omega) (by omega) (by omega) _ _ hw hS ls (lv_sub hl [2, 3, 4, 1, 0] rfl)
                      · skip
                        have t68 : v5.toInt = 1 := i_eq c55
                        refine lv_aload_n X.1 X.2.1 dX9_wins_95 rfl (lv_at hl 0 rfl) ?_
                        refine gF X hw (by decide) hm_MO rfl (by decide +kernel) 8 (by decide) (ref := "RankBenchModel") rfl (by decide +kernel) rfl dX9_wins_96 ?_
                        refine lv_iload X.1 X.2.1 dX9_wins_99 (lv_at hl 4 rfl) ?_
                        refine aL X hw (by decide) hm_mp (vp_in_iff.mpr ⟨by omega, by omega⟩) dX9_wins_101 ?_
                        refine lv_lconst (v := 0) X.1 X.2.1 dX9_wins_102 (by decide) ?_
                        refine bl_lt (tgt := 125) X dX9_wins_103 dX9_wins_104 (by decide) (fun c69 => ?_) (fun c69 => ?_)
                        · skip
                          refine lv_iconst (v := 1) X.1 X.2.1 dX9_wins_125 (by decide) ?_
                          refine lv_goto (tgt := 130) X.1 X.2.1 dX9_wins_126 (by decide) ?_
                          refine lv_iadd X.1 X.2.1 dX9_wins_130 ?_
                          refine tni (fun x70 ex70 => ?_)
                          have q71 := inc_sp v8
                          rw [← ex70] at q71
                          refine lv_istore (lv' := [(8, .int x70), (0, .ref (G.2.2 0)), (5, .int v5), (7, .int v7), (9, .int v9)]) X.1 X.2.1 dX9_wins_131 hl (by decide) rfl (fun ls hl => ?_)
                          refine lv_iinc (v := (v9 + 1)) (lv' := [(9, .int (v9 + 1)), (8, .int x70), (0, .ref (G.2.2 0)), (5, .int v5), (7, .int v7)]) X.1 X.2.1 dX9_wins_133 hl (k := 4) rfl rfl (by decide) rfl (fun ls hl => ?_)
                          refine lv_goto (tgt := 63) X.1 X.2.1 dX9_wins_136 (by decide) ?_
                          have q72 := inc_sp v9
                          exact ih1 v5 v7 x70 (v9 + 1) (by omega) (by omega) (by omega) _ _ hw hS ls (lv_sub hl [2, 3, 4, 1, 0] rfl)
                        · skip
                          refine lv_iload X.1 X.2.1 dX9_wins_107 (lv_at hl 1 rfl) ?_
                          refine lv_iconst (v := 2) X.1 X.2.1 dX9_wins_109 (by decide) ?_
                          refine bi_ne (tgt := 129) X dX9_wins_110 (by decide) (fun c73 => ?_) (fun c73 => ?_)
                          · skip
                            have t74 : ¬ v5.toInt = 2 := i_ne c73
                            refine lv_iconst (v := 0) X.1 X.2.1 dX9_wins_129 (by decide) ?_
                            refine lv_iadd X.1 X.2.1 dX9_wins_130 ?_
                            refine tni (fun x75 ex75 => ?_)
                            refine lv_istore (lv' := [(8, .int x75), (0, .ref (G.2.2 0)), (5, .int v5), (7, .int v7), (9, .int v9)]) X.1 X.2.1 dX9_wins_131 hl (by decide) rfl (fun ls hl => ?_)
                            refine lv_iinc (v := (v9 + 1)) (lv' := [(9, .int (v9 + 1)), (8, .int x75), (0, .ref (G.2.2 0)), (5, .int v5), (7, .int v7)]) X.1 X.2.1 dX9_wins_133 hl (k := 4) rfl rfl (by decide) rfl (fun ls hl => ?_)
                            refine lv_goto (tgt := 63) X.1 X.2.1 dX9_wins_136 (by decide) ?_
                            have q76 := inc_sp v9
                            exact ih1 v5 v7 x75 (v9 + 1) (by omega) (by omega) (by omega) _ _ hw hS ls (lv_sub hl [2, 3, 4, 1, 0] rfl)
                          · skip
                            have t77 : v5.toInt = 2 := i_eq c73
                            refine lv_aload_n X.1 X.2.1 dX9_wins_113 rfl (lv_at hl 0 rfl) ?_
                            refine gF X hw (by decide) hm_MO rfl (by decide +kernel) 8 (by decide) (ref := "RankBenchModel") rfl (by decide +kernel) rfl dX9_wins_114 ?_
                            refine lv_iload X.1 X.2.1 dX9_wins_117 (lv_at hl 4 rfl) ?_
                            refine aL X hw (by decide) hm_mp (vp_in_iff.mpr ⟨by omega, by omega⟩) dX9_wins_119 ?_
                            refine lv_lconst (v := 0) X.1 X.2.1 dX9_wins_120 (by decide) ?_
                            refine bl_ne (tgt := 129) X dX9_wins_121 dX9_wins_122 (by decide) (fun c78 => ?_) (fun c78 => ?_)
                            · skip
                              refine lv_iconst (v := 0) X.1 X.2.1 dX9_wins_129 (by decide) ?_
                              refine lv_iadd X.1 X.2.1 dX9_wins_130 ?_
                              refine tni (fun x79 ex79 => ?_)
                              refine lv_istore (lv' := [(8, .int x79), (0, .ref (G.2.2 0)), (5, .int v5), (7, .int v7), (9, .int v9)]) X.1 X.2.1 dX9_wins_131 hl (by decide) rfl (fun ls hl => ?_)
                              refine lv_iinc (v := (v9 + 1)) (lv' := [(9, .int (v9 + 1)), (8, .int x79), (0, .ref (G.2.2 0)), (5, .int v5), (7, .int v7)]) X.1 X.2.1 dX9_wins_133 hl (k := 4) rfl rfl (by decide) rfl (fun ls hl => ?_)
                              refine lv_goto (tgt := 63) X.1 X.2.1 dX9_wins_136 (by decide) ?_
                              have q80 := inc_sp v9
                              exact ih1 v5 v7 x79 (v9 + 1) (by omega) (by omega) (by omega) _ _ hw hS ls (lv_sub hl [2, 3, 4, 1, 0] rfl)
                            · skip
                              refine lv_iconst (v := 1) X.1 X.2.1 dX9_wins_125 (by decide) ?_
                              refine lv_goto (tgt := 130) X.1 X.2.1 dX9_wins_126 (by decide) ?_
                              refine lv_iadd X.1 X.2.1 dX9_wins_130 ?_
                              refine tni (fun x81 ex81 => ?_)
                              have q82 := inc_sp v8
                              rw [← ex81] at q82
                              refine lv_istore (lv' := [(8, .int x81), (0, .ref (G.2.2 0)), (5, .int v5), (7, .int v7), (9, .int v9)]) X.1 X.2.1 dX9_wins_131 hl (by decide) rfl (fun ls hl => ?_)
                              refine lv_iinc (v := (v9 + 1)) (lv' := [(9, .int (v9 + 1)), (8, .int x81), (0, .ref (G.2.2 0)), (5, .int v5), (7, .int v7)]) X.1 X.2.1 dX9_wins_133 hl (k := 4) rfl rfl (by decide) rfl (fun ls hl => ?_)
                              refine lv_goto (tgt := 63) X.1 X.2.1 dX9_wins_136 (by decide) ?_
                              have q83 := inc_sp v9
                              exact ih1 v5 v7 x81 (v9 + 1) (by omega) (by omega) (by omega) _ _ hw hS ls (lv_sub hl [2, 3, 4, 1, 0] rfl)
            exact L1 9 a5 x10 0 0 (by decide) (by first | omega | decide) (by first | omega | decide) _ _ hw hS ls (lv_sub hl [4, 9, 2, 1, 0] rfl)
          · skip
            have t84 : x10.toInt = 0 := i_eq c14
            refine lv_bipush (v := (-3)) X.1 X.2.1 dX9_wins_54 (by decide) ?_
            exact rQ X hr hlk hw hS dX9_wins_56
      · skip
        have t85 : 2 < a5.toInt := i_nle c7
        refine lv_bipush (v := (-2)) X.1 X.2.1 dX9_wins_30 (by decide) ?_
        exact rQ X hr hlk hw hS dX9_wins_32
  · skip
    have t86 : r1.toInt < 0 := i_nle c2
    refine lv_iload X.1 X.2.1 dX9_wins_16 (lv_at hl 0 rfl) ?_
    exact rQ X hr hlk hw hS dX9_wins_18
