/-! 21.odds -/
def f_X8_meet_52 : Nat → Mem → Int32 → Int32 → Int32 → Int32 → Int32 → Int32 × Mem
  | 0, M, _, _, _, _, _ => (0, M)
  | n1 + 1, M, v1, v2, v3, v4, v5 => if (8 : Int32) ≤ v5 then (bnd (f_X0_size M) (fun r20 => if r20 = 0 then ((-3), M) else (bnd (f_X0_size M) (fun r23 => (r23, M))))) else (oc (f_X8_questionOf v5) (oc (f_X8_countingRow M v1 v5) (oc (f_X8_countingRow M v2 v5) (f_X8_meet_52 n1 M v1 v2 v3 v4 (v5 + 1)) (fun o28 => f_X8_meet_52 n1 M v1 v2 v3 v4 (v5 + 1))) (fun o27 => oc (f_X8_countingRow M v2 v5) (f_X8_meet_52 n1 M v1 v2 v3 v4 (v5 + 1)) (fun o31 => f_X8_meet_52 n1 M v1 v2 v3 v4 (v5 + 1)))) (fun o26 => oc (f_X8_countingRow M v1 v5) (oc (f_X8_countingRow M v2 v5) (f_X8_meet_52 n1 M v1 v2 v3 v4 (v5 + 1)) (fun o35 => f_X8_meet_52 n1 M v1 v2 v3 v4 (v5 + 1))) (fun o34 => oc (f_X8_countingRow M v2 v5) (f_X8_meet_52 n1 M v1 v2 v3 v4 (v5 + 1)) (fun o38 => bnd (f_X3_put M 4 o26 o34 v3 v4) (fun M40 => bnd (f_X3_put M40 3 o26 o38 v3 v4) (fun M41 => bnd (f_X1_add M41 4 3 (-1)) (fun M42 => bnd (f_X0_append M42 4) (fun M43 => f_X8_meet_52 n1 M43 v1 v2 v3 v4 (v5 + 1)))))))))
def f_X8_meet (M : Mem) (a1 : Int32) (a2 : Int32) (a3 : Int32) (a4 : Int32) : Int32 × Mem := bnd (f_X8_isRanker a1) (fun r1 => if r1 = 0 then ((-1), M) else (bnd (f_X8_isRanker a2) (fun r5 => if r5 = 0 then ((-1), M) else (bnd (f_X8_hasMean a3) (fun r8 => if r8 = 0 then ((-2), M) else (bnd (f_X8_isDepth a4) (fun r12 => if r12 = 0 then ((-2), M) else (if a1 = a2 then ((-3), M) else (bnd (f_X0_clear M) (fun M17 => f_X8_meet_52 9 M17 a1 a2 a3 a4 0))))))))))
set_option maxRecDepth 100000 in
set_option maxHeartbeats 4000000 in
theorem c_X8_meet (l : Launch) (G : En) (A : Nat → Prop) (M : Mem) (a1 : Int32) (a2 : Int32) (a3 : Int32) (a4 : Int32) : WrI true l yX8_meet wsX8_meet ({ frames := 5, cells := 0, slots := 0, locals := 126 }) G A M [.ref (G.2.2 0), .int a1, .int a2, .int a3, .int a4] (f_X8_meet M a1 a2 a3 a4) := by
  refine WrI.of (cc := cX8_meet) (maxL := 9) (ret := (some .int)) (own := RX8) (by decide) rfl rfl (Nat.le_of_ble_eq_true rfl) ?_
  intro p e s m below meth c X hw hr hlk ls hl hS
  have hl : lv_has ls 9 [(0, .ref (G.2.2 0)), (1, .int a1), (2, .int a2), (3, .int a3), (4, .int a4)] := hl
  unfold f_X8_meet
  refine lv_iload_n X.1 X.2.1 dX8_meet_0 rfl (lv_at hl 1 rfl) ?_
  refine cSI [.int a1] [] X hw (c_X8_isRanker l G A M a1) (va_cwS 1 X.2.2.2.2 gX8_meet_X8_isRanker rfl rfl rfl (by decide +kernel) ⟨Nat.le_of_ble_eq_true rfl, Nat.le_of_ble_eq_true rfl⟩)  rfl rfl hl.1 (Nat.le_of_ble_eq_true rfl) dX8_meet_1 ?_
  refine tni (fun r1 er1 => ?_)
  refine bz_eq (tgt := 14) X dX8_meet_4 (by decide) (fun c2 => ?_) (fun c2 => ?_)
  · skip
    have t3 : r1.toInt = 0 := i_eq c2
    refine lv_iconst (v := (-1)) X.1 X.2.1 dX8_meet_14 (by decide) ?_
    exact rQ X hr hlk hw hS dX8_meet_15
  · skip
    have t4 : ¬ r1.toInt = 0 := i_ne c2
    refine lv_iload_n X.1 X.2.1 dX8_meet_7 rfl (lv_at hl 2 rfl) ?_
    refine cSI [.int a2] [] X hw (c_X8_isRanker l G A M a2) (va_cwS 1 X.2.2.2.2 gX8_meet_X8_isRanker rfl rfl rfl (by decide +kernel) ⟨Nat.le_of_ble_eq_true rfl, Nat.le_of_ble_eq_true rfl⟩)  rfl rfl hl.1 (Nat.le_of_ble_eq_true rfl) dX8_meet_8 ?_
    refine tni (fun r5 er5 => ?_)
    refine bz_ne (tgt := 16) X dX8_meet_11 (by decide) (fun c6 => ?_) (fun c6 => ?_)
    · skip
      have t7 : ¬ r5.toInt = 0 := i_ne c6
      refine lv_iload_n X.1 X.2.1 dX8_meet_16 rfl (lv_at hl 3 rfl) ?_
      refine cSI [.int a3] [] X hw (c_X8_hasMean l G A M a3) (va_cwS 1 X.2.2.2.2 gX8_meet_X8_hasMean rfl rfl rfl (by decide +kernel) ⟨Nat.le_of_ble_eq_true rfl, Nat.le_of_ble_eq_true rfl⟩)  rfl rfl hl.1 (Nat.le_of_ble_eq_true rfl) dX8_meet_17 ?_
      refine tni (fun r8 er8 => ?_)
      refine bz_eq (tgt := 31) X dX8_meet_20 (by decide) (fun c9 => ?_) (fun c9 => ?_)
      · skip
        have t10 : r8.toInt = 0 := i_eq c9
        refine lv_bipush (v := (-2)) X.1 X.2.1 dX8_meet_31 (by decide) ?_
        exact rQ X hr hlk hw hS dX8_meet_33
      · skip
        have t11 : ¬ r8.toInt = 0 := i_ne c9
        refine lv_iload X.1 X.2.1 dX8_meet_23 (lv_at hl 4 rfl) ?_
        refine cSI [.int a4] [] X hw (c_X8_isDepth l G A M a4) (va_cwS 1 X.2.2.2.2 gX8_meet_X8_isDepth rfl rfl rfl (by decide +kernel) ⟨Nat.le_of_ble_eq_true rfl, Nat.le_of_ble_eq_true rfl⟩)  rfl rfl hl.1 (Nat.le_of_ble_eq_true rfl) dX8_meet_25 ?_
        refine tni (fun r12 er12 => ?_)
        have qr12 := dep_or er12
        refine bz_ne (tgt := 34) X dX8_meet_28 (by decide) (fun c13 => ?_) (fun c13 => ?_)
        · skip
          have t14 : ¬ r12.toInt = 0 := i_ne c13
          refine lv_iload_n X.1 X.2.1 dX8_meet_34 rfl (lv_at hl 1 rfl) ?_
          refine lv_iload_n X.1 X.2.1 dX8_meet_35 rfl (lv_at hl 2 rfl) ?_
          refine bi_ne (tgt := 42) X dX8_meet_36 (by decide) (fun c15 => ?_) (fun c15 => ?_)
          · skip
            have t16 : ¬ a1.toInt = a2.toInt := i_ne c15
            refine lv_aload_n X.1 X.2.1 dX8_meet_42 rfl (lv_at hl 0 rfl) ?_
            refine gF X hw (by decide) hk_RB rfl (by decide +kernel) 4 (by decide) (ref := "RankBench") rfl (by decide +kernel) rfl dX8_meet_43 ?_
            refine cVW [] [] X hw hS (c_X0_clear l G A M ) (cwV 0 X.2.2.2.2 gX8_meet_X0_clear rfl rfl rfl (by decide +kernel) ⟨Nat.le_of_ble_eq_true rfl, Nat.le_of_ble_eq_true rfl⟩) (hw.recv (by decide) hk_Ct rfl) rfl rfl hl.1 (Nat.le_of_ble_eq_true rfl) dX8_meet_46 (fun H locs hw hS => ?_)
            refine tpb (fun M17 eM17 => ?_)
            rw [← eM17] at hw
            refine lv_iconst (v := 0) X.1 X.2.1 dX8_meet_49 (by decide) ?_
            refine lv_istore (lv' := [(5, .int 0), (0, .ref (G.2.2 0)), (1, .int a1), (2, .int a2), (3, .int a3), (4, .int a4)]) X.1 X.2.1 dX8_meet_50 hl (by decide) rfl (fun ls hl => ?_)
            have L1 : ∀ (n1 : Nat) (M : Mem) (v1 : Int32) (v2 : Int32) (v3 : Int32) (v4 : Int32) (v5 : Int32)  (hm1 : (8 - v5.toInt : Int).toNat < n1) (hi1_0 : 0 ≤ v5.toInt) (hi1_1 : v4.toInt ≤ 16), ∀ (H : Heap) (locs : List Loc), WD true G A M s H → va_S A s.heap H locs → ∀ ls : Array Slot, lv_has ls 9 [(0, .ref (G.2.2 0)), (1, .int v1), (2, .int v2), (3, .int v3), (4, .int v4), (5, .int v5)] → W p l e ({ frames := 5, cells := 0, slots := 0, locals := 126 } : Room) s m ([.ref (G.2.2 0), .int a1, .int a2, .int a3, .int a4] : List Value).toArray below meth c H locs 0 0 (TQi true G A below ([.ref (G.2.2 0), .int a1, .int a2, .int a3, .int a4] : List Value).toArray s (f_X8_meet_52 n1 M v1 v2 v3 v4 v5)) (F0 m 52 ls []) := by
              intro n1
              induction n1 with
              | zero => intro M v1 v2 v3 v4 v5 hm1 hi1_0 hi1_1; exact absurd hm1 (by omega)
              | succ n1 ih1 =>
                intro M v1 v2 v3 v4 v5 hm1 hi1_0 hi1_1 H locs hw hS ls hl
                rw [f_X8_meet_52]
                refine lv_iload X.1 X.2.1 dX8_meet_52 (lv_at hl 5 rfl) ?_
                refine lv_bipush (v := 8) X.1 X.2.1 dX8_meet_54 (by decide) ?_
                refine bi_ge (tgt := 159) X dX8_meet_56 (by decide) (fun c18 => ?_) (fun c18 => ?_)
                · skip
                  have t19 : 8 ≤ v5.toInt := i_le c18
                  refine lv_aload_n X.1 X.2.1 dX8_meet_159 rfl (lv_at hl 0 rfl) ?_
                  refine gF X hw (by decide) hk_RB rfl (by decide +kernel) 4 (by decide) (ref := "RankBench") rfl (by decide +kernel) rfl dX8_meet_160 ?_
                  refine cVI [] [] X hw (c_X0_size l G A M ) (cwV 0 X.2.2.2.2 gX8_meet_X0_size rfl rfl rfl (by decide +kernel) ⟨Nat.le_of_ble_eq_true rfl, Nat.le_of_ble_eq_true rfl⟩) (hw.recv (by decide) hk_Ct rfl) rfl rfl hl.1 (Nat.le_of_ble_eq_true rfl) dX8_meet_163 ?_
                  refine tni (fun r20 er20 => ?_)
                  refine bz_ne (tgt := 174) X dX8_meet_166 (by decide) (fun c21 => ?_) (fun c21 => ?_)
                  · skip
                    have t22 : ¬ r20.toInt = 0 := i_ne c21
                    refine lv_aload_n X.1 X.2.1 dX8_meet_174 rfl (lv_at hl 0 rfl) ?_
                    refine gF X hw (by decide) hk_RB rfl (by decide +kernel) 4 (by decide) (ref := "RankBench") rfl (by decide +kernel) rfl dX8_meet_175 ?_
                    refine cVI [] [] X hw (c_X0_size l G A M ) (cwV 0 X.2.2.2.2 gX8_meet_X0_size rfl rfl rfl (by decide +kernel) ⟨Nat.le_of_ble_eq_true rfl, Nat.le_of_ble_eq_true rfl⟩) (hw.recv (by decide) hk_Ct rfl) rfl rfl hl.1 (Nat.le_of_ble_eq_true rfl) dX8_meet_178 ?_
                    refine tni (fun r23 er23 => ?_)
                    exact rQ X hr hlk hw hS dX8_meet_181
                  · skip
                    have t24 : r20.toInt = 0 := i_eq c21
                    refine lv_bipush (v := (-3)) X.1 X.2.1 dX8_meet_169 (by decide) ?_
                    refine lv_goto (tgt := 181) X.1 X.2.1 dX8_meet_171 (by decide) ?_
                    exact rQ X hr hlk hw hS dX8_meet_181
                · skip
                  have t25 : v5.toInt < 8 := i_nle c18
                  refine lv_aload_n X.1 X.2.1 dX8_meet_59 rfl (lv_at hl 0 rfl) ?_
                  refine lv_iload X.1 X.2.1 dX8_meet_60 (lv_at hl 5 rfl) ?_
                  refine cVO [.int v5] [] X hw (c_X8_questionOf l G A M v5) (cwV 1 X.2.2.2.2 gX8_meet_X8_questionOf rfl rfl rfl (by decide +kernel) ⟨Nat.le_of_ble_eq_true rfl, Nat.le_of_ble_eq_true rfl⟩) (hw.recv (by decide) hk_RB rfl) rfl rfl hl.1 (Nat.le_of_ble_eq_true rfl) dX8_meet_62 ?_
                  refine tno (fun eo26 => ?_) (fun o26 eo26 => ?_)
                  · skip
                    refine lv_astoreN (lv' := [(6, .null), (0, .ref (G.2.2 0)), (1, .int v1), (2, .int v2), (3, .int v3), (4, .int v4), (5, .int v5)]) X.1 X.2.1 dX8_meet_65 hl (by decide) rfl (fun ls hl => ?_)
                    refine lv_aload_n X.1 X.2.1 dX8_meet_67 rfl (lv_at hl 1 rfl) ?_
                    refine lv_iload_n X.1 X.2.1 dX8_meet_68 rfl (lv_at hl 2 rfl) ?_
                    refine lv_iload X.1 X.2.1 dX8_meet_69 (lv_at hl 6 rfl) ?_
                    refine cVO [.int v1, .int v5] [] X hw (c_X8_countingRow l G A M v1 v5) (cwV 2 X.2.2.2.2 gX8_meet_X8_countingRow rfl rfl rfl (by decide +kernel) ⟨Nat.le_of_ble_eq_true rfl, Nat.le_of_ble_eq_true rfl⟩) (hw.recv (by decide) hk_RB rfl) rfl rfl hl.1 (Nat.le_of_ble_eq_true rfl) dX8_meet_71 ?_
                    refine tno (fun eo27 => ?_) (fun o27 eo27 => ?_)
                    · skip
                      refine lv_astoreN (lv' := [(7, .null), (6, .null), (0, .ref (G.2.2 0)), (1, .int v1), (2, .int v2), (3, .int v3), (4, .int v4), (5, .int v5)]) X.1 X.2.1 dX8_meet_74 hl (by decide) rfl (fun ls hl => ?_)
                      refine lv_aload_n X.1 X.2.1 dX8_meet_76 rfl (lv_at hl 2 rfl) ?_
                      refine lv_iload_n X.1 X.2.1 dX8_meet_77 rfl (lv_at hl 4 rfl) ?_
                      refine lv_iload X.1 X.2.1 dX8_meet_78 (lv_at hl 7 rfl) ?_
                      refine cVO [.int v2, .int v5] [] X hw (c_X8_countingRow l G A M v2 v5) (cwV 2 X.2.2.2.2 gX8_meet_X8_countingRow rfl rfl rfl (by decide +kernel) ⟨Nat.le_of_ble_eq_true rfl, Nat.le_of_ble_eq_true rfl⟩) (hw.recv (by decide) hk_RB rfl) rfl rfl hl.1 (Nat.le_of_ble_eq_true rfl) dX8_meet_80 ?_
                      refine tno (fun eo28 => ?_) (fun o28 eo28 => ?_)
                      · skip
                        refine lv_astoreN (lv' := [(8, .null), (7, .null), (6, .null), (0, .ref (G.2.2 0)), (1, .int v1), (2, .int v2), (3, .int v3), (4, .int v4), (5, .int v5)]) X.1 X.2.1 dX8_meet_83 hl (by decide) rfl (fun ls hl => ?_)
                        refine lv_aloadN X.1 X.2.1 dX8_meet_85 (lv_at hl 2 rfl) ?_
                        refine lv_ifnullN (tgt := 153) X.1 X.2.1 dX8_meet_87 (by decide) ?_
                        refine lv_iinc (v := (v5 + 1)) (lv' := [(5, .int (v5 + 1)), (8, .null), (7, .null), (6, .null), (0, .ref (G.2.2 0)), (1, .int v1), (2, .int v2), (3, .int v3), (4, .int v4)]) X.1 X.2.1 dX8_meet_153 hl (k := 8) rfl rfl (by decide) rfl (fun ls hl => ?_)
                        refine lv_goto (tgt := 52) X.1 X.2.1 dX8_meet_156 (by decide) ?_
                        have q29 := inc_sp v5
                        exact ih1 M v1 v2 v3 v4 (v5 + 1) (by omega) (by omega) (by omega) _ _ hw hS ls (lv_sub hl [4, 5, 6, 7, 8, 0] rfl)
                      · skip
                        have ho28 : 34 ≤ o28 ∧ o28 < 66 := b_X8_countingRow eo28
                        refine lv_astore (lv' := [(8, .ref (G.2.2 o28)), (7, .null), (6, .null), (0, .ref (G.2.2 0)), (1, .int v1), (2, .int v2), (3, .int v3), (4, .int v4), (5, .int v5)]) X.1 X.2.1 dX8_meet_83 hl (by decide) rfl (fun ls hl => ?_)
                        refine lv_aloadN X.1 X.2.1 dX8_meet_85 (lv_at hl 2 rfl) ?_
                        refine lv_ifnullN (tgt := 153) X.1 X.2.1 dX8_meet_87 (by decide) ?_
                        refine lv_iinc (v := (v5 + 1)) (lv' := [(5, .int (v5 + 1)), (8, .ref (G.2.2 o28)), (7, .null), (6, .null), (0, .ref (G.2.2 0)), (1, .int v1), (2, .int v2), (3, .int v3), (4, .int v4)]) X.1 X.2.1 dX8_meet_153 hl (k := 8) rfl rfl (by decide) rfl (fun ls hl => ?_)
                        refine lv_goto (tgt := 52) X.1 X.2.1 dX8_meet_156 (by decide) ?_
                        have q30 := inc_sp v5
                        exact ih1 M v1 v2 v3 v4 (v5 + 1) (by omega) (by omega) (by omega) _ _ hw hS ls (lv_sub hl [4, 5, 6, 7, 8, 0] rfl)
                    · skip
                      have ho27 : 34 ≤ o27 ∧ o27 < 66 := b_X8_countingRow eo27
                      refine lv_astore (lv' := [(7, .ref (G.2.2 o27)), (6, .null), (0, .ref (G.2.2 0)), (1, .int v1), (2, .int v2), (3, .int v3), (4, .int v4), (5, .int v5)]) X.1 X.2.1 dX8_meet_74 hl (by decide) rfl (fun ls hl => ?_)
                      refine lv_aload_n X.1 X.2.1 dX8_meet_76 rfl (lv_at hl 2 rfl) ?_
                      refine lv_iload_n X.1 X.2.1 dX8_meet_77 rfl (lv_at hl 4 rfl) ?_
                      refine lv_iload X.1 X.2.1 dX8_meet_78 (lv_at hl 7 rfl) ?_
                      refine cVO [.int v2, .int v5] [] X hw (c_X8_countingRow l G A M v2 v5) (cwV 2 X.2.2.2.2 gX8_meet_X8_countingRow rfl rfl rfl (by decide +kernel) ⟨Nat.le_of_ble_eq_true rfl, Nat.le_of_ble_eq_true rfl⟩) (hw.recv (by decide) hk_RB rfl) rfl rfl hl.1 (Nat.le_of_ble_eq_true rfl) dX8_meet_80 ?_
                      refine tno (fun eo31 => ?_) (fun o31 eo31 => ?_)
                      · skip
                        refine lv_astoreN (lv' := [(8, .null), (7, .ref (G.2.2 o27)), (6, .null), (0, .ref (G.2.2 0)), (1, .int v1), (2, .int v2), (3, .int v3), (4, .int v4), (5, .int v5)]) X.1 X.2.1 dX8_meet_83 hl (by decide) rfl (fun ls hl => ?_)
                        refine lv_aloadN X.1 X.2.1 dX8_meet_85 (lv_at hl 2 rfl) ?_
                        refine lv_ifnullN (tgt := 153) X.1 X.2.1 dX8_meet_87 (by decide) ?_
                        refine lv_iinc (v := (v5 + 1)) (lv' := [(5, .int (v5 + 1)), (8, .null), (7, .ref (G.2.2 o27)), (6, .null), (0, .ref (G.2.2 0)), (1, .int v1), (2, .int v2), (3, .int v3), (4, .int v4)]) X.1 X.2.1 dX8_meet_153 hl (k := 8) rfl rfl (by decide) rfl (fun ls hl => ?_)
                        refine lv_goto (tgt := 52) X.1 X.2.1 dX8_meet_156 (by decide) ?_
                        have q32 := inc_sp v5
                        exact ih1 M v1 v2 v3 v4 (v5 + 1) (by omega) (by omega) (by omega) _ _ hw hS ls (lv_sub hl [4, 5, 6, 7, 8, 0] rfl)
                      · skip
                        have ho31 : 34 ≤ o31 ∧ o31 < 66 := b_X8_countingRow eo31
                        refine lv_astore (lv' := [(8, .ref (G.2.2 o31)), (7, .ref (G.2.2 o27)), (6, .null), (0, .ref (G.2.2 0)), (1, .int v1), (2, .int v2), (3, .int v3), (4, .int v4), (5, .int v5)]) X.1 X.2.1 dX8_meet_83 hl (by decide) rfl (fun ls hl => ?_)
                        refine lv_aloadN X.1 X.2.1 dX8_meet_85 (lv_at hl 2 rfl) ?_
                        refine lv_ifnullN (tgt := 153) X.1 X.2.1 dX8_meet_87 (by decide) ?_
                        refine lv_iinc (v := (v5 + 1)) (lv' := [(5, .int (v5 + 1)), (8, .ref (G.2.2 o31)), (7, .ref (G.2.2 o27)), (6, .null), (0, .ref (G.2.2 0)), (1, .int v1), (2, .int v2), (3, .int v3), (4, .int v4)]) X.1 X.2.1 dX8_meet_153 hl (k := 8) rfl rfl (by decide) rfl (fun ls hl => ?_)
                        refine lv_goto (tgt := 52) X.1 X.2.1 dX8_meet_156 (by decide) ?_
                        have q33 := inc_sp v5
                        exact ih1 M v1 v2 v3 v4 (v5 + 1) (by omega) (by omega) (by omega) _ _ hw hS ls (lv_sub hl [4, 5, 6, 7, 8, 0] rfl)
                  · skip
                    have ho26 : 10 ≤ o26 ∧ o26 < 18 := b_X8_questionOf eo26
                    refine lv_astore (lv' := [(6, .ref (G.2.2 o26)), (0, .ref (G.2.2 0)), (1, .int v1), (2, .int v2), (3, .int v3), (4, .int v4), (5, .int v5)]) X.1 X.2.1 dX8_meet_65 hl (by decide) rfl (fun ls hl => ?_)
                    refine lv_aload_n X.1 X.2.1 dX8_meet_67 rfl (lv_at hl 1 rfl) ?_
                    refine lv_iload_n X.1 X.2.1 dX8_meet_68 rfl (lv_at hl 2 rfl) ?_
                    refine lv_iload X.1 X.2.1 dX8_meet_69 (lv_at hl 6 rfl) ?_
                    refine cVO [.int v1, .int v5] [] X hw (c_X8_countingRow l G A M v1 v5) (cwV 2 X.2.2.2.2 gX8_meet_X8_countingRow rfl rfl rfl (by decide +kernel) ⟨Nat.le_of_ble_eq_true rfl, Nat.le_of_ble_eq_true rfl⟩) (hw.recv (by decide) hk_RB rfl) rfl rfl hl.1 (Nat.le_of_ble_eq_true rfl) dX8_meet_71 ?_
                    refine tno (fun eo34 => ?_) (fun o34 eo34 => ?_)
                    · skip
                      refine lv_astoreN (lv' := [(7, .null), (6, .ref (G.2.2 o26)), (0, .ref (G.2.2 0)), (1, .int v1), (2, .int v2), (3, .int v3), (4, .int v4), (5, .int v5)]) X.1 X.2.1 dX8_meet_74 hl (by decide) rfl (fun ls hl => ?_)
                      refine lv_aload_n X.1 X.2.1 dX8_meet_76 rfl (lv_at hl 2 rfl) ?_
                      refine lv_iload_n X.1 X.2.1 dX8_meet_77 rfl (lv_at hl 4 rfl) ?_
                      refine lv_iload X.1 X.2.1 dX8_meet_78 (lv_at hl 7 rfl) ?_
                      refine cVO [.int v2, .int v5] [] X hw (c_X8_countingRow l G A M v2 v5) (cwV 2 X.2.2.2.2 gX8_meet_X8_countingRow rfl rfl rfl (by decide +kernel) ⟨Nat.le_of_ble_eq_true rfl, Nat.le_of_ble_eq_true rfl⟩) (hw.recv (by decide) hk_RB rfl) rfl rfl hl.1 (Nat.le_of_ble_eq_true rfl) dX8_meet_80 ?_
                      refine tno (fun eo35 => ?_) (fun o35 eo35 => ?_)
                      · skip
                        refine lv_astoreN (lv' := [(8, .null), (7, .null), (6, .ref (G.2.2 o26)), (0, .ref (G.2.2 0)), (1, .int v1), (2, .int v2), (3, .int v3), (4, .int v4), (5, .int v5)]) X.1 X.2.1 dX8_meet_83 hl (by decide) rfl (fun ls hl => ?_)
                        refine lv_aload X.1 X.2.1 dX8_meet_85 (lv_at hl 2 rfl) ?_
                        refine lv_ifnull X.1 X.2.1 dX8_meet_87 ?_
                        refine lv_aloadN X.1 X.2.1 dX8_meet_90 (lv_at hl 1 rfl) ?_
                        refine lv_ifnullN (tgt := 153) X.1 X.2.1 dX8_meet_92 (by decide) ?_
                        refine lv_iinc (v := (v5 + 1)) (lv' := [(5, .int (v5 + 1)), (8, .null), (7, .null), (6, .ref (G.2.2 o26)), (0, .ref (G.2.2 0)), (1, .int v1), (2, .int v2), (3, .int v3), (4, .int v4)]) X.1 X.2.1 dX8_meet_153 hl (k := 8) rfl rfl (by decide) rfl (fun ls hl => ?_)
                        refine lv_goto (tgt := 52) X.1 X.2.1 dX8_meet_156 (by decide) ?_
                        have q36 := inc_sp v5
                        exact ih1 M v1 v2 v3 v4 (v5 + 1) (by omega) (by omega) (by omega) _ _ hw hS ls (lv_sub hl [4, 5, 6, 7, 8, 0] rfl)
                      · skip
                        have ho35 : 34 ≤ o35 ∧ o35 < 66 := b_X8_countingRow eo35
                        refine lv_astore (lv' := [(8, .ref (G.2.2 o35)), (7, .null), (6, .ref (G.2.2 o26)), (0, .ref (G.2.2 0)), (1, .int v1), (2, .int v2), (3, .int v3), (4, .int v4), (5, .int v5)]) X.1 X.2.1 dX8_meet_83 hl (by decide) rfl (fun ls hl => ?_)
                        refine lv_aload X.1 X.2.1 dX8_meet_85 (lv_at hl 2 rfl) ?_
                        refine lv_ifnull X.1 X.2.1 dX8_meet_87 ?_
                        refine lv_aloadN X.1 X.2.1 dX8_meet_90 (lv_at hl 1 rfl) ?_
                        refine lv_ifnullN (tgt := 153) X.1 X.2.1 dX8_meet_92 (by decide) ?_
                        refine lv_iinc (v := (v5 + 1)) (lv' := [(5, .int (v5 + 1)), (8, .ref (G.2.2 o35)), (7, .null), (6, .ref (G.2.2 o26)), (0, .ref (G.2.2 0)), (1, .int v1), (2, .int v2), (3, .int v3), (4, .int v4)]) X.1 X.2.1 dX8_meet_153 hl (k := 8) rfl rfl (by decide) rfl (fun ls hl => ?_)
                        refine lv_goto (tgt := 52) X.1 X.2.1 dX8_meet_156 (by decide) ?_
                        have q37 := inc_sp v5
                        exact ih1 M v1 v2 v3 v4 (v5 + 1) (by omega) (by omega) (by omega) _ _ hw hS ls (lv_sub hl [4, 5, 6, 7, 8, 0] rfl)
                    · skip
                      have ho34 : 34 ≤ o34 ∧ o34 < 66 := b_X8_countingRow eo34
                      refine lv_astore (lv' := [(7, .ref (G.2.2 o34)), (6, .ref (G.2.2 o26)), (0, .ref (G.2.2 0)), (1, .int v1), (2, .int v2), (3, .int v3), (4, .int v4), (5, .int v5)]) X.1 X.2.1 dX8_meet_74 hl (by decide) rfl (fun ls hl => ?_)
                      refine lv_aload_n X.1 X.2.1 dX8_meet_76 rfl (lv_at hl 2 rfl) ?_
                      refine lv_iload_n X.1 X.2.1 dX8_meet_77 rfl (lv_at hl 4 rfl) ?_
                      refine lv_iload X.1 X.2.1 dX8_meet_78 (lv_at hl 7 rfl) ?_
                      refine cVO [.int v2, .int v5] [] X hw (c_X8_countingRow l G A M v2 v5) (cwV 2 X.2.2.2.2 gX8_meet_X8_countingRow rfl rfl rfl (by decide +kernel) ⟨Nat.le_of_ble_eq_true rfl, Nat.le_of_ble_eq_true rfl⟩) (hw.recv (by decide) hk_RB rfl) rfl rfl hl.1 (Nat.le_of_ble_eq_true rfl) dX8_meet_80 ?_
                      refine tno (fun eo38 => ?_) (fun o38 eo38 => ?_)
                      · skip
                        refine lv_astoreN (lv' := [(8, .null), (7, .ref (G.2.2 o34)), (6, .ref (G.2.2 o26)), (0, .ref (G.2.2 0)), (1, .int v1), (2, .int v2), (3, .int v3), (4, .int v4), (5, .int v5)]) X.1 X.2.1 dX8_meet_83 hl (by decide) rfl (fun ls hl => ?_)
                        refine lv_aload X.1 X.2.1 dX8_meet_85 (lv_at hl 2 rfl) ?_
                        refine lv_ifnull X.1 X.2.1 dX8_meet_87 ?_
                        refine lv_aload X.1 X.2.1 dX8_meet_90 (lv_at hl 1 rfl) ?_
                        refine lv_ifnull X.1 X.2.1 dX8_meet_92 ?_
                        refine lv_aloadN X.1 X.2.1 dX8_meet_95 (lv_at hl 0 rfl) ?_
                        refine lv_ifnullN (tgt := 153) X.1 X.2.1 dX8_meet_97 (by decide) ?_
                        refine lv_iinc (v := (v5 + 1)) (lv' := [(5, .int (v5 + 1)), (8, .null), (7, .ref (G.2.2 o34)), (6, .ref (G.2.2 o26)), (0, .ref (G.2.2 0)), (1, .int v1), (2, .int v2), (3, .int v3), (4, .int v4)]) X.1 X.2.1 dX8_meet_153 hl (k := 8) rfl rfl (by decide) rfl (fun ls hl => ?_)
                        refine lv_goto (tgt := 52) X.1 X.2.1 dX8_meet_156 (by decide) ?_
                        have q39 := inc_sp v5
                        exact ih1 M v1 v2 v3 v4 (v5 + 1) (by omega) (by omega) (by omega) _ _ hw hS ls (lv_sub hl [4, 5, 6, 7, 8, 0] rfl)
                      · skip
                        have ho38 : 34 ≤ o38 ∧ o38 < 66 := b_X8_countingRow eo38
                        refine lv_astore (lv' := [(8, .ref (G.2.2 o38)), (7, .ref (G.2.2 o34)), (6, .ref (G.2.2 o26)), (0, .ref (G.2.2 0)), (1, .int v1), (2, .int v2), (3, .int v3), (4, .int v4), (5, .int v5)]) X.1 X.2.1 dX8_meet_83 hl (by decide) rfl (fun ls hl => ?_)
                        refine lv_aload X.1 X.2.1 dX8_meet_85 (lv_at hl 2 rfl) ?_
                        refine lv_ifnull X.1 X.2.1 dX8_meet_87 ?_
                        refine lv_aload X.1 X.2.1 dX8_meet_90 (lv_at hl 1 rfl) ?_
                        refine lv_ifnull X.1 X.2.1 dX8_meet_92 ?_
                        refine lv_aload X.1 X.2.1 dX8_meet_95 (lv_at hl 0 rfl) ?_
                        refine lv_ifnull X.1 X.2.1 dX8_meet_97 ?_
                        refine lv_aload_n X.1 X.2.1 dX8_meet_100 rfl (lv_at hl 3 rfl) ?_
                        refine gF X hw (by decide) hk_RB rfl (by decide +kernel) 3 (by decide) (ref := "RankBench") rfl (by decide +kernel) rfl dX8_meet_101 ?_
                        refine lv_aload X.1 X.2.1 dX8_meet_104 (lv_at hl 2 rfl) ?_
                        refine lv_aload X.1 X.2.1 dX8_meet_106 (lv_at hl 1 rfl) ?_
                        refine lv_iload_n X.1 X.2.1 dX8_meet_108 rfl (lv_at hl 6 rfl) ?_
                        refine lv_iload X.1 X.2.1 dX8_meet_109 (lv_at hl 7 rfl) ?_
                        refine cSW [.ref (G.2.2 4), .ref (G.2.2 o26), .ref (G.2.2 o34), .int v3, .int v4] [] X hw hS (c_X3_put l G A M 4 (by decide : 2 ≤ 4 ∧ 4 < 5) o26 ho26 o34 ho34 v3 v4 (by omega)) (va_cwS 5 X.2.2.2.2 gX8_meet_X3_put rfl rfl rfl (by decide +kernel) ⟨Nat.le_of_ble_eq_true rfl, Nat.le_of_ble_eq_true rfl⟩)  rfl rfl hl.1 (Nat.le_of_ble_eq_true rfl) dX8_meet_111 (fun H locs hw hS => ?_)
                        refine tpb (fun M40 eM40 => ?_)
                        rw [← eM40] at hw
                        refine lv_aload_n X.1 X.2.1 dX8_meet_114 rfl (lv_at hl 3 rfl) ?_
                        refine gF X hw (by decide) hk_RB rfl (by decide +kernel) 2 (by decide) (ref := "RankBench") rfl (by decide +kernel) rfl dX8_meet_115 ?_
                        refine lv_aload X.1 X.2.1 dX8_meet_118 (lv_at hl 2 rfl) ?_
                        refine lv_aload X.1 X.2.1 dX8_meet_120 (lv_at hl 0 rfl) ?_
                        refine lv_iload_n X.1 X.2.1 dX8_meet_122 rfl (lv_at hl 6 rfl) ?_
                        refine lv_iload X.1 X.2.1 dX8_meet_123 (lv_at hl 7 rfl) ?_
                        refine cSW [.ref (G.2.2 3), .ref (G.2.2 o26), .ref (G.2.2 o38), .int v3, .int v4] [] X hw hS (c_X3_put l G A M40 3 (by decide : 2 ≤ 3 ∧ 3 < 5) o26 ho26 o38 ho38 v3 v4 (by omega)) (va_cwS 5 X.2.2.2.2 gX8_meet_X3_put rfl rfl rfl (by decide +kernel) ⟨Nat.le_of_ble_eq_true rfl, Nat.le_of_ble_eq_true rfl⟩)  rfl rfl hl.1 (Nat.le_of_ble_eq_true rfl) dX8_meet_125 (fun H locs hw hS => ?_)
                        refine tpb (fun M41 eM41 => ?_)
                        rw [← eM41] at hw
                        refine lv_aload_n X.1 X.2.1 dX8_meet_128 rfl (lv_at hl 3 rfl) ?_
                        refine gF X hw (by decide) hk_RB rfl (by decide +kernel) 3 (by decide) (ref := "RankBench") rfl (by decide +kernel) rfl dX8_meet_129 ?_
                        refine lv_aload_n X.1 X.2.1 dX8_meet_132 rfl (lv_at hl 3 rfl) ?_
                        refine gF X hw (by decide) hk_RB rfl (by decide +kernel) 2 (by decide) (ref := "RankBench") rfl (by decide +kernel) rfl dX8_meet_133 ?_
                        refine lv_ldc2 (v := (-1)) X.1 X.2.1 X.2.2.2.1 (X.2.2.2.2 (.constantLong RX8 114 ((-1))) (by decide +kernel)) dX8_meet_136 ?_
                        refine cVW [.ref (G.2.2 3), .long (-1)] [] X hw hS (c_X1_add l G A M41 4 (by decide : 2 ≤ 4 ∧ 4 < 5) 3 (by decide : 2 ≤ 3 ∧ 3 < 5) (-1)) (cwV 2 X.2.2.2.2 gX8_meet_X1_add rfl rfl rfl (by decide +kernel) ⟨Nat.le_of_ble_eq_true rfl, Nat.le_of_ble_eq_true rfl⟩) (hw.recv (lt98 (by have h9 := (by decide : 2 ≤ 4 ∧ 4 < 5); omega)) (hk_Fr (by decide : 2 ≤ 4 ∧ 4 < 5)) rfl) rfl rfl hl.1 (Nat.le_of_ble_eq_true rfl) dX8_meet_139 (fun H locs hw hS => ?_)
                        refine tpb (fun M42 eM42 => ?_)
                        rw [← eM42] at hw
                        refine lv_aload_n X.1 X.2.1 dX8_meet_142 rfl (lv_at hl 3 rfl) ?_
                        refine gF X hw (by decide) hk_RB rfl (by decide +kernel) 4 (by decide) (ref := "RankBench") rfl (by decide +kernel) rfl dX8_meet_143 ?_
                        refine lv_aload_n X.1 X.2.1 dX8_meet_146 rfl (lv_at hl 3 rfl) ?_
                        refine gF X hw (by decide) hk_RB rfl (by decide +kernel) 3 (by decide) (ref := "RankBench") rfl (by decide +kernel) rfl dX8_meet_147 ?_
                        refine cVW [.ref (G.2.2 4)] [] X hw hS (c_X0_append l G A M42 4 (by decide : 2 ≤ 4 ∧ 4 < 5)) (cwV 1 X.2.2.2.2 gX8_meet_X0_append rfl rfl rfl (by decide +kernel) ⟨Nat.le_of_ble_eq_true rfl, Nat.le_of_ble_eq_true rfl⟩) (hw.recv (by decide) hk_Ct rfl) rfl rfl hl.1 (Nat.le_of_ble_eq_true rfl) dX8_meet_150 (fun H locs hw hS => ?_)
                        refine tpb (fun M43 eM43 => ?_)
                        rw [← eM43] at hw
                        refine lv_iinc (v := (v5 + 1)) (lv' := [(5, .int (v5 + 1)), (8, .ref (G.2.2 o38)), (7, .ref (G.2.2 o34)), (6, .ref (G.2.2 o26)), (0, .ref (G.2.2 0)), (1, .int v1), (2, .int v2), (3, .int v3), (4, .int v4)]) X.1 X.2.1 dX8_meet_153 hl (k := 8) rfl rfl (by decide) rfl (fun ls hl => ?_)
                        refine lv_goto (tgt := 52) X.1 X.2.1 dX8_meet_156 (by decide) ?_
                        have q44 := inc_sp v5
                        exact ih1 M43 v1 v2 v3 v4 (v5 + 1) (by omega) (by omega) (by omega) _ _ hw hS ls (lv_sub hl [4, 5, 6, 7, 8, 0] rfl)
            exact L1 9 M17 a1 a2 a3 a4 0 (by decide) (by first | omega | decide) (by first | omega | decide) _ _ hw hS ls (lv_sub hl [1, 2, 3, 4, 5, 0] rfl)
          · skip
            have t45 : a1.toInt = a2.toInt := i_eq c15
            refine lv_bipush (v := (-3)) X.1 X.2.1 dX8_meet_39 (by decide) ?_
            exact rQ X hr hlk hw hS dX8_meet_41
        · skip
          have t46 : r12.toInt = 0 := i_eq c13
          refine lv_bipush (v := (-2)) X.1 X.2.1 dX8_meet_31 (by decide) ?_
          exact rQ X hr hlk hw hS dX8_meet_33
    · skip
      have t47 : r5.toInt = 0 := i_eq c6
      refine lv_iconst (v := (-1)) X.1 X.2.1 dX8_meet_14 (by decide) ?_
      exact rQ X hr hlk hw hS dX8_meet_15

def f_X8_odds (M : Mem) (a1 : Int32) (a2 : Int32) (a3 : Int32) (a4 : Int32) : Int32 × Mem := bnd (f_X8_meet M a1 a2 a3 a4) (fun p1 => bnd p1.1 (fun x2 => if x2 ≤ 0 then (x2, p1.2) else (bnd (f_X0_waysAsFarApart p1.2) (fun r6 => bnd (f_X1_become p1.2 2 r6 ((1 : Int64) <<< (x2.toInt64 &&& 63))) (fun M7 => (x2, M7))))))
set_option maxRecDepth 100000 in
set_option maxHeartbeats 4000000 in
theorem c_X8_odds (l : Launch) (G : En) (A : Nat → Prop) (M : Mem) (a1 : Int32) (a2 : Int32) (a3 : Int32) (a4 : Int32) : WrI true l yX8_odds wsX8_odds ({ frames := 12, cells := 0, slots := 0, locals := 343 }) G A M [.ref (G.2.2 0), .int a1, .int a2, .int a3, .int a4] (f_X8_odds M a1 a2 a3 a4) := by
  refine WrI.of (cc := cX8_odds) (maxL := 6) (ret := (some .int)) (own := RX8) (by decide) rfl rfl (Nat.le_of_ble_eq_true rfl) ?_
  intro p e s m below meth c X hw hr hlk ls hl hS
  have hl : lv_has ls 6 [(0, .ref (G.2.2 0)), (1, .int a1), (2, .int a2), (3, .int a3), (4, .int a4)] := hl
  unfold f_X8_odds
  refine lv_aload_n X.1 X.2.1 dX8_odds_0 rfl (lv_at hl 0 rfl) ?_
  refine lv_iload_n X.1 X.2.1 dX8_odds_1 rfl (lv_at hl 1 rfl) ?_
  refine lv_iload_n X.1 X.2.1 dX8_odds_2 rfl (lv_at hl 2 rfl) ?_
  refine lv_iload_n X.1 X.2.1 dX8_odds_3 rfl (lv_at hl 3 rfl) ?_
  refine lv_iload X.1 X.2.1 dX8_odds_4 (lv_at hl 4 rfl) ?_
  refine cVJ [.int a1, .int a2, .int a3, .int a4] [] X hw hS (c_X8_meet l G A M a1 a2 a3 a4) (cwV 4 X.2.2.2.2 gX8_odds_X8_meet rfl rfl rfl (by decide +kernel) ⟨Nat.le_of_ble_eq_true rfl, Nat.le_of_ble_eq_true rfl⟩) (hw.recv (by decide) hk_RB rfl) rfl rfl hl.1 (Nat.le_of_ble_eq_true rfl) dX8_odds_6 (fun H locs hw hS => ?_)
  refine tpb (fun p1 ep1 => ?_)
  rw [← ep1] at hw
  rw [← ep1]
  refine tni (fun x2 ex2 => ?_)
  refine lv_istore (lv' := [(5, .int x2), (0, .ref (G.2.2 0)), (1, .int a1), (2, .int a2), (3, .int a3), (4, .int a4)]) X.1 X.2.1 dX8_odds_9 hl (by decide) rfl (fun ls hl => ?_)
  refine lv_iload X.1 X.2.1 dX8_odds_11 (lv_at hl 0 rfl) ?_
  refine bz_le (tgt := 34) X dX8_odds_13 (by decide) (fun c3 => ?_) (fun c3 => ?_)
  · skip
    have t4 : x2.toInt ≤ 0 := i_le c3
    refine lv_iload X.1 X.2.1 dX8_odds_34 (lv_at hl 0 rfl) ?_
    exact rQ X hr hlk hw hS dX8_odds_36
  · skip
    have t5 : 0 < x2.toInt := i_nle c3
    refine lv_aload_n X.1 X.2.1 dX8_odds_16 rfl (lv_at hl 1 rfl) ?_
    refine gF X hw (by decide) hk_RB rfl (by decide +kernel) 1 (by decide) (ref := "RankBench") rfl (by decide +kernel) rfl dX8_odds_17 ?_
    refine lv_aload_n X.1 X.2.1 dX8_odds_20 rfl (lv_at hl 1 rfl) ?_
    refine gF X hw (by decide) hk_RB rfl (by decide +kernel) 4 (by decide) (ref := "RankBench") rfl (by decide +kernel) rfl dX8_odds_21 ?_
    refine cVL [] [.ref (G.2.2 2)] X hw (c_X0_waysAsFarApart l G A p1.2 ) (cwV 0 X.2.2.2.2 gX8_odds_X0_waysAsFarApart rfl rfl rfl (by decide +kernel) ⟨Nat.le_of_ble_eq_true rfl, Nat.le_of_ble_eq_true rfl⟩) (hw.recv (by decide) hk_Ct rfl) rfl rfl hl.1 (Nat.le_of_ble_eq_true rfl) dX8_odds_24 ?_
    refine tnl (fun r6 er6 => ?_)
    refine lv_lconst (v := 1) X.1 X.2.1 dX8_odds_27 (by decide) ?_
    refine lv_iload X.1 X.2.1 dX8_odds_28 (lv_at hl 0 rfl) ?_
    refine lv_lshl (v := ((1 : Int64) <<< (x2.toInt64 &&& 63))) X.1 X.2.1 dX8_odds_30 rfl ?_
    refine cVW [.long r6, .long ((1 : Int64) <<< (x2.toInt64 &&& 63))] [] X hw hS (c_X1_become l G A p1.2 2 (by decide : 2 ≤ 2 ∧ 2 < 5) r6 ((1 : Int64) <<< (x2.toInt64 &&& 63))) (cwV 2 X.2.2.2.2 gX8_odds_X1_become rfl rfl rfl (by decide +kernel) ⟨Nat.le_of_ble_eq_true rfl, Nat.le_of_ble_eq_true rfl⟩) (hw.recv (lt98 (by have h9 := (by decide : 2 ≤ 2 ∧ 2 < 5); omega)) (hk_Fr (by decide : 2 ≤ 2 ∧ 2 < 5)) rfl) rfl rfl hl.1 (Nat.le_of_ble_eq_true rfl) dX8_odds_31 (fun H locs hw hS => ?_)
    refine tpb (fun M7 eM7 => ?_)
    rw [← eM7] at hw
    refine lv_iload X.1 X.2.1 dX8_odds_34 (lv_at hl 0 rfl) ?_
    exact rQ X hr hlk hw hS dX8_odds_36

def f_X8_wins (M : Mem) (a1 : Int32) (a2 : Int32) (a3 : Int32) (a4 : Int32) (a5 : Int32) : Int32 × Mem := bnd (f_X8_isRanker a1) (fun r1 => if r1 = 0 then ((-1), M) else (bnd (f_X8_isRanker a2) (fun r5 => if r5 = 0 then ((-1), M) else (if a5 < 0 then ((-2), M) else (if a5 ≤ 2 then (bnd (f_X8_meet M a1 a2 a3 a4) (fun p13 => bnd p13.1 (fun x14 => if (0 : Int32) ≤ x14 then (if a5 = 2 then (bnd (f_X0_differencesWithSign p13.2 0) (fun r25 => (r25, p13.2))) else (if a5 = 0 then (bnd (f_X0_differencesWithSign p13.2 1) (fun r23 => (r23, p13.2))) else (bnd (f_X0_differencesWithSign p13.2 (-1)) (fun r21 => (r21, p13.2))))) else (x14, p13.2)))) else ((-2), M))))))
set_option maxRecDepth 100000 in
set_option maxHeartbeats 4000000 in
theorem c_X8_wins (l : Launch) (G : En) (A : Nat → Prop) (M : Mem) (a1 : Int32) (a2 : Int32) (a3 : Int32) (a4 : Int32) (a5 : Int32) : WrI true l yX8_wins wsX8_wins ({ frames := 6, cells := 0, slots := 0, locals := 154 }) G A M [.ref (G.2.2 0), .int a1, .int a2, .int a3, .int a4, .int a5] (f_X8_wins M a1 a2 a3 a4 a5) := by
  refine WrI.of (cc := cX8_wins) (maxL := 7) (ret := (some .int)) (own := RX8) (by decide) rfl rfl (Nat.le_of_ble_eq_true rfl) ?_
  intro p e s m below meth c X hw hr hlk ls hl hS
  have hl : lv_has ls 7 [(0, .ref (G.2.2 0)), (1, .int a1), (2, .int a2), (3, .int a3), (4, .int a4), (5, .int a5)] := hl
  unfold f_X8_wins
  refine lv_iload_n X.1 X.2.1 dX8_wins_0 rfl (lv_at hl 1 rfl) ?_
  refine cSI [.int a1] [] X hw (c_X8_isRanker l G A M a1) (va_cwS 1 X.2.2.2.2 gX8_wins_X8_isRanker rfl rfl rfl (by decide +kernel) ⟨Nat.le_of_ble_eq_true rfl, Nat.le_of_ble_eq_true rfl⟩)  rfl rfl hl.1 (Nat.le_of_ble_eq_true rfl) dX8_wins_1 ?_
  refine tni (fun r1 er1 => ?_)
  refine bz_eq (tgt := 14) X dX8_wins_4 (by decide) (fun c2 => ?_) (fun c2 => ?_)
  · skip
    have t3 : r1.toInt = 0 := i_eq c2
    refine lv_iconst (v := (-1)) X.1 X.2.1 dX8_wins_14 (by decide) ?_
    exact rQ X hr hlk hw hS dX8_wins_15
  · skip
    have t4 : ¬ r1.toInt = 0 := i_ne c2
    refine lv_iload_n X.1 X.2.1 dX8_wins_7 rfl (lv_at hl 2 rfl) ?_
    refine cSI [.int a2] [] X hw (c_X8_isRanker l G A M a2) (va_cwS 1 X.2.2.2.2 gX8_wins_X8_isRanker rfl rfl rfl (by decide +kernel) ⟨Nat.le_of_ble_eq_true rfl, Nat.le_of_ble_eq_true rfl⟩)  rfl rfl hl.1 (Nat.le_of_ble_eq_true rfl) dX8_wins_8 ?_
    refine tni (fun r5 er5 => ?_)
    refine bz_ne (tgt := 16) X dX8_wins_11 (by decide) (fun c6 => ?_) (fun c6 => ?_)
    · skip
      have t7 : ¬ r5.toInt = 0 := i_ne c6
      refine lv_iload X.1 X.2.1 dX8_wins_16 (lv_at hl 5 rfl) ?_
      refine bz_lt (tgt := 27) X dX8_wins_18 (by decide) (fun c8 => ?_) (fun c8 => ?_)
      · skip
        have t9 : a5.toInt < 0 := i_lt c8
        refine lv_bipush (v := (-2)) X.1 X.2.1 dX8_wins_27 (by decide) ?_
        exact rQ X hr hlk hw hS dX8_wins_29
      · skip
        have t10 : 0 ≤ a5.toInt := i_nlt c8
        refine lv_iload X.1 X.2.1 dX8_wins_21 (lv_at hl 5 rfl) ?_
        refine lv_iconst (v := 2) X.1 X.2.1 dX8_wins_23 (by decide) ?_
        refine bi_le (tgt := 30) X dX8_wins_24 (by decide) (fun c11 => ?_) (fun c11 => ?_)
        · skip
          have t12 : a5.toInt ≤ 2 := i_le c11
          refine lv_aload_n X.1 X.2.1 dX8_wins_30 rfl (lv_at hl 0 rfl) ?_
          refine lv_iload_n X.1 X.2.1 dX8_wins_31 rfl (lv_at hl 1 rfl) ?_
          refine lv_iload_n X.1 X.2.1 dX8_wins_32 rfl (lv_at hl 2 rfl) ?_
          refine lv_iload_n X.1 X.2.1 dX8_wins_33 rfl (lv_at hl 3 rfl) ?_
          refine lv_iload X.1 X.2.1 dX8_wins_34 (lv_at hl 4 rfl) ?_
          refine cVJ [.int a1, .int a2, .int a3, .int a4] [] X hw hS (c_X8_meet l G A M a1 a2 a3 a4) (cwV 4 X.2.2.2.2 gX8_wins_X8_meet rfl rfl rfl (by decide +kernel) ⟨Nat.le_of_ble_eq_true rfl, Nat.le_of_ble_eq_true rfl⟩) (hw.recv (by decide) hk_RB rfl) rfl rfl hl.1 (Nat.le_of_ble_eq_true rfl) dX8_wins_36 (fun H locs hw hS => ?_)
          refine tpb (fun p13 ep13 => ?_)
          rw [← ep13] at hw
          rw [← ep13]
          refine tni (fun x14 ex14 => ?_)
          refine lv_istore (lv' := [(6, .int x14), (0, .ref (G.2.2 0)), (1, .int a1), (2, .int a2), (3, .int a3), (4, .int a4), (5, .int a5)]) X.1 X.2.1 dX8_wins_39 hl (by decide) rfl (fun ls hl => ?_)
          refine lv_iload X.1 X.2.1 dX8_wins_41 (lv_at hl 0 rfl) ?_
          refine bz_ge (tgt := 49) X dX8_wins_43 (by decide) (fun c15 => ?_) (fun c15 => ?_)
          · skip
            have t16 : 0 ≤ x14.toInt := i_le c15
            refine lv_iload X.1 X.2.1 dX8_wins_49 (lv_at hl 6 rfl) ?_
            refine lv_iconst (v := 2) X.1 X.2.1 dX8_wins_51 (by decide) ?_
            refine bi_ne (tgt := 64) X dX8_wins_52 (by decide) (fun c17 => ?_) (fun c17 => ?_)
            · skip
              have t18 : ¬ a5.toInt = 2 := i_ne c17
              refine lv_aload_n X.1 X.2.1 dX8_wins_64 rfl (lv_at hl 1 rfl) ?_
              refine gF X hw (by decide) hk_RB rfl (by decide +kernel) 4 (by decide) (ref := "RankBench") rfl (by decide +kernel) rfl dX8_wins_65 ?_
              refine lv_iload X.1 X.2.1 dX8_wins_68 (lv_at hl 6 rfl) ?_
              refine bz_ne (tgt := 77) X dX8_wins_70 (by decide) (fun c19 => ?_) (fun c19 => ?_)
              · skip
                have t20 : ¬ a5.toInt = 0 := i_ne c19
                refine lv_iconst (v := (-1)) X.1 X.2.1 dX8_wins_77 (by decide) ?_
                refine cVI [.int (-1)] [] X hw (c_X0_differencesWithSign l G A p13.2 (-1)) (cwV 1 X.2.2.2.2 gX8_wins_X0_differencesWithSign rfl rfl rfl (by decide +kernel) ⟨Nat.le_of_ble_eq_true rfl, Nat.le_of_ble_eq_true rfl⟩) (hw.recv (by decide) hk_Ct rfl) rfl rfl hl.1 (Nat.le_of_ble_eq_true rfl) dX8_wins_78 ?_
                refine tni (fun r21 er21 => ?_)
                exact rQ X hr hlk hw hS dX8_wins_81
              · skip
                have t22 : a5.toInt = 0 := i_eq c19
                refine lv_iconst (v := 1) X.1 X.2.1 dX8_wins_73 (by decide) ?_
                refine lv_goto (tgt := 78) X.1 X.2.1 dX8_wins_74 (by decide) ?_
                refine cVI [.int 1] [] X hw (c_X0_differencesWithSign l G A p13.2 1) (cwV 1 X.2.2.2.2 gX8_wins_X0_differencesWithSign rfl rfl rfl (by decide +kernel) ⟨Nat.le_of_ble_eq_true rfl, Nat.le_of_ble_eq_true rfl⟩) (hw.recv (by decide) hk_Ct rfl) rfl rfl hl.1 (Nat.le_of_ble_eq_true rfl) dX8_wins_78 ?_
                refine tni (fun r23 er23 => ?_)
                exact rQ X hr hlk hw hS dX8_wins_81
            · skip
              have t24 : a5.toInt = 2 := i_eq c17
              refine lv_aload_n X.1 X.2.1 dX8_wins_55 rfl (lv_at hl 1 rfl) ?_
              refine gF X hw (by decide) hk_RB rfl (by decide +kernel) 4 (by decide) (ref := "RankBench") rfl (by decide +kernel) rfl dX8_wins_56 ?_
              refine lv_iconst (v := 0) X.1 X.2.1 dX8_wins_59 (by decide) ?_
              refine cVI [.int 0] [] X hw (c_X0_differencesWithSign l G A p13.2 0) (cwV 1 X.2.2.2.2 gX8_wins_X0_differencesWithSign rfl rfl rfl (by decide +kernel) ⟨Nat.le_of_ble_eq_true rfl, Nat.le_of_ble_eq_true rfl⟩) (hw.recv (by decide) hk_Ct rfl) rfl rfl hl.1 (Nat.le_of_ble_eq_true rfl) dX8_wins_60 ?_
              refine tni (fun r25 er25 => ?_)
              exact rQ X hr hlk hw hS dX8_wins_63
          · skip
            have t26 : x14.toInt < 0 := i_nle c15
            refine lv_iload X.1 X.2.1 dX8_wins_46 (lv_at hl 0 rfl) ?_
            exact rQ X hr hlk hw hS dX8_wins_48
        · skip
          have t27 : 2 < a5.toInt := i_nle c11
          refine lv_bipush (v := (-2)) X.1 X.2.1 dX8_wins_27 (by decide) ?_
          exact rQ X hr hlk hw hS dX8_wins_29
    · skip
      have t28 : r5.toInt = 0 := i_eq c6
      refine lv_iconst (v := (-1)) X.1 X.2.1 dX8_wins_14 (by decide) ?_
      exact rQ X hr hlk hw hS dX8_wins_15

def f_X8_laid (M : Mem) (a1 : Int32) (a2 : Int32) (a3 : Int32) (a4 : Int32) (a5 : Int32) : Int32 × Mem := oc (f_X8_rowOf M a1 a3) (oc (f_X8_rowOf M a2 a3) ((-1), M) (fun o2 => ((-1), M))) (fun o1 => oc (f_X8_rowOf M a2 a3) ((-1), M) (fun o3 => bnd (f_X4_lay M o1 o3 a4) (fun M4 => bnd (f_X4_documentAt M4 a5) (fun r5 => if r5 = (-1) then ((-3), M4) else (bnd (f_X4_isFromSecond M4 a5) (fun r8 => if r8 = 0 then (r5, M4) else ((r5 + 100), M4)))))))
set_option maxRecDepth 100000 in
set_option maxHeartbeats 4000000 in
theorem c_X8_laid (l : Launch) (G : En) (A : Nat → Prop) (M : Mem) (a1 : Int32) (a2 : Int32) (a3 : Int32) (a4 : Int32) (a5 : Int32) : WrI true l yX8_laid wsX8_laid ({ frames := 4, cells := 0, slots := 0, locals := 91 }) G A M [.ref (G.2.2 0), .int a1, .int a2, .int a3, .int a4, .int a5] (f_X8_laid M a1 a2 a3 a4 a5) := by
  refine WrI.of (cc := cX8_laid) (maxL := 9) (ret := (some .int)) (own := RX8) (by decide) rfl rfl (Nat.le_of_ble_eq_true rfl) ?_
  intro p e s m below meth c X hw hr hlk ls hl hS
  have hl : lv_has ls 9 [(0, .ref (G.2.2 0)), (1, .int a1), (2, .int a2), (3, .int a3), (4, .int a4), (5, .int a5)] := hl
  unfold f_X8_laid
  refine lv_aload_n X.1 X.2.1 dX8_laid_0 rfl (lv_at hl 0 rfl) ?_
  refine lv_iload_n X.1 X.2.1 dX8_laid_1 rfl (lv_at hl 1 rfl) ?_
  refine lv_iload_n X.1 X.2.1 dX8_laid_2 rfl (lv_at hl 3 rfl) ?_
  refine cVO [.int a1, .int a3] [] X hw (c_X8_rowOf l G A M a1 a3) (cwV 2 X.2.2.2.2 gX8_laid_X8_rowOf rfl rfl rfl (by decide +kernel) ⟨Nat.le_of_ble_eq_true rfl, Nat.le_of_ble_eq_true rfl⟩) (hw.recv (by decide) hk_RB rfl) rfl rfl hl.1 (Nat.le_of_ble_eq_true rfl) dX8_laid_3 ?_
  refine tno (fun eo1 => ?_) (fun o1 eo1 => ?_)
  · skip
    refine lv_astoreN (lv' := [(6, .null), (0, .ref (G.2.2 0)), (1, .int a1), (2, .int a2), (3, .int a3), (4, .int a4), (5, .int a5)]) X.1 X.2.1 dX8_laid_6 hl (by decide) rfl (fun ls hl => ?_)
    refine lv_aload_n X.1 X.2.1 dX8_laid_8 rfl (lv_at hl 1 rfl) ?_
    refine lv_iload_n X.1 X.2.1 dX8_laid_9 rfl (lv_at hl 3 rfl) ?_
    refine lv_iload_n X.1 X.2.1 dX8_laid_10 rfl (lv_at hl 4 rfl) ?_
    refine cVO [.int a2, .int a3] [] X hw (c_X8_rowOf l G A M a2 a3) (cwV 2 X.2.2.2.2 gX8_laid_X8_rowOf rfl rfl rfl (by decide +kernel) ⟨Nat.le_of_ble_eq_true rfl, Nat.le_of_ble_eq_true rfl⟩) (hw.recv (by decide) hk_RB rfl) rfl rfl hl.1 (Nat.le_of_ble_eq_true rfl) dX8_laid_11 ?_
    refine tno (fun eo2 => ?_) (fun o2 eo2 => ?_)
    · skip
      refine lv_astoreN (lv' := [(7, .null), (6, .null), (0, .ref (G.2.2 0)), (1, .int a1), (2, .int a2), (3, .int a3), (4, .int a4), (5, .int a5)]) X.1 X.2.1 dX8_laid_14 hl (by decide) rfl (fun ls hl => ?_)
      refine lv_aloadN X.1 X.2.1 dX8_laid_16 (lv_at hl 1 rfl) ?_
      refine lv_ifnullN (tgt := 26) X.1 X.2.1 dX8_laid_18 (by decide) ?_
      refine lv_iconst (v := (-1)) X.1 X.2.1 dX8_laid_26 (by decide) ?_
      exact rQ X hr hlk hw hS dX8_laid_27
    · skip
      have ho2 : 34 ≤ o2 ∧ o2 < 66 := b_X8_rowOf eo2
      refine lv_astore (lv' := [(7, .ref (G.2.2 o2)), (6, .null), (0, .ref (G.2.2 0)), (1, .int a1), (2, .int a2), (3, .int a3), (4, .int a4), (5, .int a5)]) X.1 X.2.1 dX8_laid_14 hl (by decide) rfl (fun ls hl => ?_)
      refine lv_aloadN X.1 X.2.1 dX8_laid_16 (lv_at hl 1 rfl) ?_
      refine lv_ifnullN (tgt := 26) X.1 X.2.1 dX8_laid_18 (by decide) ?_
      refine lv_iconst (v := (-1)) X.1 X.2.1 dX8_laid_26 (by decide) ?_
      exact rQ X hr hlk hw hS dX8_laid_27
  · skip
    have ho1 : 34 ≤ o1 ∧ o1 < 66 := b_X8_rowOf eo1
    refine lv_astore (lv' := [(6, .ref (G.2.2 o1)), (0, .ref (G.2.2 0)), (1, .int a1), (2, .int a2), (3, .int a3), (4, .int a4), (5, .int a5)]) X.1 X.2.1 dX8_laid_6 hl (by decide) rfl (fun ls hl => ?_)
    refine lv_aload_n X.1 X.2.1 dX8_laid_8 rfl (lv_at hl 1 rfl) ?_
    refine lv_iload_n X.1 X.2.1 dX8_laid_9 rfl (lv_at hl 3 rfl) ?_
    refine lv_iload_n X.1 X.2.1 dX8_laid_10 rfl (lv_at hl 4 rfl) ?_
    refine cVO [.int a2, .int a3] [] X hw (c_X8_rowOf l G A M a2 a3) (cwV 2 X.2.2.2.2 gX8_laid_X8_rowOf rfl rfl rfl (by decide +kernel) ⟨Nat.le_of_ble_eq_true rfl, Nat.le_of_ble_eq_true rfl⟩) (hw.recv (by decide) hk_RB rfl) rfl rfl hl.1 (Nat.le_of_ble_eq_true rfl) dX8_laid_11 ?_
    refine tno (fun eo3 => ?_) (fun o3 eo3 => ?_)
    · skip
      refine lv_astoreN (lv' := [(7, .null), (6, .ref (G.2.2 o1)), (0, .ref (G.2.2 0)), (1, .int a1), (2, .int a2), (3, .int a3), (4, .int a4), (5, .int a5)]) X.1 X.2.1 dX8_laid_14 hl (by decide) rfl (fun ls hl => ?_)
      refine lv_aload X.1 X.2.1 dX8_laid_16 (lv_at hl 1 rfl) ?_
      refine lv_ifnull X.1 X.2.1 dX8_laid_18 ?_
      refine lv_aloadN X.1 X.2.1 dX8_laid_21 (lv_at hl 0 rfl) ?_
      refine lv_ifnonnullN X.1 X.2.1 dX8_laid_23 ?_
      refine lv_iconst (v := (-1)) X.1 X.2.1 dX8_laid_26 (by decide) ?_
      exact rQ X hr hlk hw hS dX8_laid_27
    · skip
      have ho3 : 34 ≤ o3 ∧ o3 < 66 := b_X8_rowOf eo3
      refine lv_astore (lv' := [(7, .ref (G.2.2 o3)), (6, .ref (G.2.2 o1)), (0, .ref (G.2.2 0)), (1, .int a1), (2, .int a2), (3, .int a3), (4, .int a4), (5, .int a5)]) X.1 X.2.1 dX8_laid_14 hl (by decide) rfl (fun ls hl => ?_)
      refine lv_aload X.1 X.2.1 dX8_laid_16 (lv_at hl 1 rfl) ?_
      refine lv_ifnull X.1 X.2.1 dX8_laid_18 ?_
      refine lv_aload X.1 X.2.1 dX8_laid_21 (lv_at hl 0 rfl) ?_
      refine lv_ifnonnull (tgt := 28) X.1 X.2.1 dX8_laid_23 (by decide) ?_
      refine lv_aload_n X.1 X.2.1 dX8_laid_28 rfl (lv_at hl 2 rfl) ?_
      refine gF X hw (by decide) hk_RB rfl (by decide +kernel) 5 (by decide) (ref := "RankBench") rfl (by decide +kernel) rfl dX8_laid_29 ?_
      refine lv_aload X.1 X.2.1 dX8_laid_32 (lv_at hl 1 rfl) ?_
      refine lv_aload X.1 X.2.1 dX8_laid_34 (lv_at hl 0 rfl) ?_
      refine lv_iload X.1 X.2.1 dX8_laid_36 (lv_at hl 6 rfl) ?_
      refine cVW [.ref (G.2.2 o1), .ref (G.2.2 o3), .int a4] [] X hw hS (c_X4_lay l G A M o1 ho1 o3 ho3 a4) (cwV 3 X.2.2.2.2 gX8_laid_X4_lay rfl rfl rfl (by decide +kernel) ⟨Nat.le_of_ble_eq_true rfl, Nat.le_of_ble_eq_true rfl⟩) (hw.recv (by decide) hk_Mx rfl) rfl rfl hl.1 (Nat.le_of_ble_eq_true rfl) dX8_laid_38 (fun H locs hw hS => ?_)
      refine tpb (fun M4 eM4 => ?_)
      rw [← eM4] at hw
      refine lv_aload_n X.1 X.2.1 dX8_laid_41 rfl (lv_at hl 2 rfl) ?_
      refine gF X hw (by decide) hk_RB rfl (by decide +kernel) 5 (by decide) (ref := "RankBench") rfl (by decide +kernel) rfl dX8_laid_42 ?_
      refine lv_iload X.1 X.2.1 dX8_laid_45 (lv_at hl 7 rfl) ?_
      refine cVI [.int a5] [] X hw (c_X4_documentAt l G A M4 a5) (cwV 1 X.2.2.2.2 gX8_laid_X4_documentAt rfl rfl rfl (by decide +kernel) ⟨Nat.le_of_ble_eq_true rfl, Nat.le_of_ble_eq_true rfl⟩) (hw.recv (by decide) hk_Mx rfl) rfl rfl hl.1 (Nat.le_of_ble_eq_true rfl) dX8_laid_47 ?_
      refine tni (fun r5 er5 => ?_)
      refine lv_istore (lv' := [(8, .int r5), (7, .ref (G.2.2 o3)), (6, .ref (G.2.2 o1)), (0, .ref (G.2.2 0)), (1, .int a1), (2, .int a2), (3, .int a3), (4, .int a4), (5, .int a5)]) X.1 X.2.1 dX8_laid_50 hl (by decide) rfl (fun ls hl => ?_)
      refine lv_iload X.1 X.2.1 dX8_laid_52 (lv_at hl 0 rfl) ?_
      refine lv_iconst (v := (-1)) X.1 X.2.1 dX8_laid_54 (by decide) ?_
      refine bi_ne (tgt := 61) X dX8_laid_55 (by decide) (fun c6 => ?_) (fun c6 => ?_)
      · skip
        have t7 : ¬ r5.toInt = -1 := i_ne c6
        refine lv_aload_n X.1 X.2.1 dX8_laid_61 rfl (lv_at hl 3 rfl) ?_
        refine gF X hw (by decide) hk_RB rfl (by decide +kernel) 5 (by decide) (ref := "RankBench") rfl (by decide +kernel) rfl dX8_laid_62 ?_
        refine lv_iload X.1 X.2.1 dX8_laid_65 (lv_at hl 8 rfl) ?_
        refine cVI [.int a5] [] X hw (c_X4_isFromSecond l G A M4 a5) (cwV 1 X.2.2.2.2 gX8_laid_X4_isFromSecond rfl rfl rfl (by decide +kernel) ⟨Nat.le_of_ble_eq_true rfl, Nat.le_of_ble_eq_true rfl⟩) (hw.recv (by decide) hk_Mx rfl) rfl rfl hl.1 (Nat.le_of_ble_eq_true rfl) dX8_laid_67 ?_
        refine tni (fun r8 er8 => ?_)
        refine bz_eq (tgt := 81) X dX8_laid_70 (by decide) (fun c9 => ?_) (fun c9 => ?_)
        · skip
          have t10 : r8.toInt = 0 := i_eq c9
          refine lv_iload X.1 X.2.1 dX8_laid_81 (lv_at hl 0 rfl) ?_
          exact rQ X hr hlk hw hS dX8_laid_83
        · skip
          have t11 : ¬ r8.toInt = 0 := i_ne c9
          refine lv_iload X.1 X.2.1 dX8_laid_73 (lv_at hl 0 rfl) ?_
          refine lv_bipush (v := 100) X.1 X.2.1 dX8_laid_75 (by decide) ?_
          refine lv_iadd X.1 X.2.1 dX8_laid_77 ?_
          refine lv_goto (tgt := 83) X.1 X.2.1 dX8_laid_78 (by decide) ?_
          exact rQ X hr hlk hw hS dX8_laid_83
      · skip
        have t12 : r5.toInt = -1 := i_eq c6
        refine lv_bipush (v := (-3)) X.1 X.2.1 dX8_laid_58 (by decide) ?_
        exact rQ X hr hlk hw hS dX8_laid_60

def f_X8_clicks (M : Mem) (a1 : Int32) (a2 : Int32) (a3 : Int32) (a4 : Int32) : Int32 × Mem := oc (f_X8_questionOf a3) (oc (f_X8_rowOf M a1 a3) (oc (f_X8_rowOf M a2 a3) ((-1), M) (fun o3 => ((-1), M))) (fun o2 => oc (f_X8_rowOf M a2 a3) ((-1), M) (fun o4 => ((-1), M)))) (fun o1 => oc (f_X8_rowOf M a1 a3) (oc (f_X8_rowOf M a2 a3) ((-1), M) (fun o6 => ((-1), M))) (fun o5 => oc (f_X8_rowOf M a2 a3) ((-1), M) (fun o7 => bnd (f_X4_lay M o5 o7 a4) (fun M8 => bnd (f_X4_click M8 o1) (fun M9 => bnd (f_X4_firstClicks M9) (fun r10 => bnd (f_X4_secondClicks M9) (fun r11 => ((r10 + (100 * r11)), M9))))))))
set_option maxRecDepth 100000 in
set_option maxHeartbeats 4000000 in
theorem c_X8_clicks (l : Launch) (G : En) (A : Nat → Prop) (M : Mem) (a1 : Int32) (a2 : Int32) (a3 : Int32) (a4 : Int32) : WrI true l yX8_clicks wsX8_clicks ({ frames := 4, cells := 0, slots := 0, locals := 91 }) G A M [.ref (G.2.2 0), .int a1, .int a2, .int a3, .int a4] (f_X8_clicks M a1 a2 a3 a4) := by
  refine WrI.of (cc := cX8_clicks) (maxL := 8) (ret := (some .int)) (own := RX8) (by decide) rfl rfl (Nat.le_of_ble_eq_true rfl) ?_
  intro p e s m below meth c X hw hr hlk ls hl hS
  have hl : lv_has ls 8 [(0, .ref (G.2.2 0)), (1, .int a1), (2, .int a2), (3, .int a3), (4, .int a4)] := hl
  unfold f_X8_clicks
  refine lv_aload_n X.1 X.2.1 dX8_clicks_0 rfl (lv_at hl 0 rfl) ?_
  refine lv_iload_n X.1 X.2.1 dX8_clicks_1 rfl (lv_at hl 3 rfl) ?_
  refine cVO [.int a3] [] X hw (c_X8_questionOf l G A M a3) (cwV 1 X.2.2.2.2 gX8_clicks_X8_questionOf rfl rfl rfl (by decide +kernel) ⟨Nat.le_of_ble_eq_true rfl, Nat.le_of_ble_eq_true rfl⟩) (hw.recv (by decide) hk_RB rfl) rfl rfl hl.1 (Nat.le_of_ble_eq_true rfl) dX8_clicks_2 ?_
  refine tno (fun eo1 => ?_) (fun o1 eo1 => ?_)
  · skip
    refine lv_astoreN (lv' := [(5, .null), (0, .ref (G.2.2 0)), (1, .int a1), (2, .int a2), (3, .int a3), (4, .int a4)]) X.1 X.2.1 dX8_clicks_5 hl (by decide) rfl (fun ls hl => ?_)
    refine lv_aload_n X.1 X.2.1 dX8_clicks_7 rfl (lv_at hl 1 rfl) ?_
    refine lv_iload_n X.1 X.2.1 dX8_clicks_8 rfl (lv_at hl 2 rfl) ?_
    refine lv_iload_n X.1 X.2.1 dX8_clicks_9 rfl (lv_at hl 4 rfl) ?_
    refine cVO [.int a1, .int a3] [] X hw (c_X8_rowOf l G A M a1 a3) (cwV 2 X.2.2.2.2 gX8_clicks_X8_rowOf rfl rfl rfl (by decide +kernel) ⟨Nat.le_of_ble_eq_true rfl, Nat.le_of_ble_eq_true rfl⟩) (hw.recv (by decide) hk_RB rfl) rfl rfl hl.1 (Nat.le_of_ble_eq_true rfl) dX8_clicks_10 ?_
    refine tno (fun eo2 => ?_) (fun o2 eo2 => ?_)
    · skip
      refine lv_astoreN (lv' := [(6, .null), (5, .null), (0, .ref (G.2.2 0)), (1, .int a1), (2, .int a2), (3, .int a3), (4, .int a4)]) X.1 X.2.1 dX8_clicks_13 hl (by decide) rfl (fun ls hl => ?_)
      refine lv_aload_n X.1 X.2.1 dX8_clicks_15 rfl (lv_at hl 2 rfl) ?_
      refine lv_iload_n X.1 X.2.1 dX8_clicks_16 rfl (lv_at hl 4 rfl) ?_
      refine lv_iload_n X.1 X.2.1 dX8_clicks_17 rfl (lv_at hl 5 rfl) ?_
      refine cVO [.int a2, .int a3] [] X hw (c_X8_rowOf l G A M a2 a3) (cwV 2 X.2.2.2.2 gX8_clicks_X8_rowOf rfl rfl rfl (by decide +kernel) ⟨Nat.le_of_ble_eq_true rfl, Nat.le_of_ble_eq_true rfl⟩) (hw.recv (by decide) hk_RB rfl) rfl rfl hl.1 (Nat.le_of_ble_eq_true rfl) dX8_clicks_18 ?_
      refine tno (fun eo3 => ?_) (fun o3 eo3 => ?_)
      · skip
        refine lv_astoreN (lv' := [(7, .null), (6, .null), (5, .null), (0, .ref (G.2.2 0)), (1, .int a1), (2, .int a2), (3, .int a3), (4, .int a4)]) X.1 X.2.1 dX8_clicks_21 hl (by decide) rfl (fun ls hl => ?_)
        refine lv_aloadN X.1 X.2.1 dX8_clicks_23 (lv_at hl 2 rfl) ?_
        refine lv_ifnullN (tgt := 38) X.1 X.2.1 dX8_clicks_25 (by decide) ?_
        refine lv_iconst (v := (-1)) X.1 X.2.1 dX8_clicks_38 (by decide) ?_
        exact rQ X hr hlk hw hS dX8_clicks_39
      · skip
        have ho3 : 34 ≤ o3 ∧ o3 < 66 := b_X8_rowOf eo3
        refine lv_astore (lv' := [(7, .ref (G.2.2 o3)), (6, .null), (5, .null), (0, .ref (G.2.2 0)), (1, .int a1), (2, .int a2), (3, .int a3), (4, .int a4)]) X.1 X.2.1 dX8_clicks_21 hl (by decide) rfl (fun ls hl => ?_)
        refine lv_aloadN X.1 X.2.1 dX8_clicks_23 (lv_at hl 2 rfl) ?_
        refine lv_ifnullN (tgt := 38) X.1 X.2.1 dX8_clicks_25 (by decide) ?_
        refine lv_iconst (v := (-1)) X.1 X.2.1 dX8_clicks_38 (by decide) ?_
        exact rQ X hr hlk hw hS dX8_clicks_39
    · skip
      have ho2 : 34 ≤ o2 ∧ o2 < 66 := b_X8_rowOf eo2
      refine lv_astore (lv' := [(6, .ref (G.2.2 o2)), (5, .null), (0, .ref (G.2.2 0)), (1, .int a1), (2, .int a2), (3, .int a3), (4, .int a4)]) X.1 X.2.1 dX8_clicks_13 hl (by decide) rfl (fun ls hl => ?_)
      refine lv_aload_n X.1 X.2.1 dX8_clicks_15 rfl (lv_at hl 2 rfl) ?_
      refine lv_iload_n X.1 X.2.1 dX8_clicks_16 rfl (lv_at hl 4 rfl) ?_
      refine lv_iload_n X.1 X.2.1 dX8_clicks_17 rfl (lv_at hl 5 rfl) ?_
      refine cVO [.int a2, .int a3] [] X hw (c_X8_rowOf l G A M a2 a3) (cwV 2 X.2.2.2.2 gX8_clicks_X8_rowOf rfl rfl rfl (by decide +kernel) ⟨Nat.le_of_ble_eq_true rfl, Nat.le_of_ble_eq_true rfl⟩) (hw.recv (by decide) hk_RB rfl) rfl rfl hl.1 (Nat.le_of_ble_eq_true rfl) dX8_clicks_18 ?_
      refine tno (fun eo4 => ?_) (fun o4 eo4 => ?_)
      · skip
        refine lv_astoreN (lv' := [(7, .null), (6, .ref (G.2.2 o2)), (5, .null), (0, .ref (G.2.2 0)), (1, .int a1), (2, .int a2), (3, .int a3), (4, .int a4)]) X.1 X.2.1 dX8_clicks_21 hl (by decide) rfl (fun ls hl => ?_)
        refine lv_aloadN X.1 X.2.1 dX8_clicks_23 (lv_at hl 2 rfl) ?_
        refine lv_ifnullN (tgt := 38) X.1 X.2.1 dX8_clicks_25 (by decide) ?_
        refine lv_iconst (v := (-1)) X.1 X.2.1 dX8_clicks_38 (by decide) ?_
        exact rQ X hr hlk hw hS dX8_clicks_39
      · skip
        have ho4 : 34 ≤ o4 ∧ o4 < 66 := b_X8_rowOf eo4
        refine lv_astore (lv' := [(7, .ref (G.2.2 o4)), (6, .ref (G.2.2 o2)), (5, .null), (0, .ref (G.2.2 0)), (1, .int a1), (2, .int a2), (3, .int a3), (4, .int a4)]) X.1 X.2.1 dX8_clicks_21 hl (by decide) rfl (fun ls hl => ?_)
        refine lv_aloadN X.1 X.2.1 dX8_clicks_23 (lv_at hl 2 rfl) ?_
        refine lv_ifnullN (tgt := 38) X.1 X.2.1 dX8_clicks_25 (by decide) ?_
        refine lv_iconst (v := (-1)) X.1 X.2.1 dX8_clicks_38 (by decide) ?_
        exact rQ X hr hlk hw hS dX8_clicks_39
  · skip
    have ho1 : 10 ≤ o1 ∧ o1 < 18 := b_X8_questionOf eo1
    refine lv_astore (lv' := [(5, .ref (G.2.2 o1)), (0, .ref (G.2.2 0)), (1, .int a1), (2, .int a2), (3, .int a3), (4, .int a4)]) X.1 X.2.1 dX8_clicks_5 hl (by decide) rfl (fun ls hl => ?_)
    refine lv_aload_n X.1 X.2.1 dX8_clicks_7 rfl (lv_at hl 1 rfl) ?_
    refine lv_iload_n X.1 X.2.1 dX8_clicks_8 rfl (lv_at hl 2 rfl) ?_
    refine lv_iload_n X.1 X.2.1 dX8_clicks_9 rfl (lv_at hl 4 rfl) ?_
    refine cVO [.int a1, .int a3] [] X hw (c_X8_rowOf l G A M a1 a3) (cwV 2 X.2.2.2.2 gX8_clicks_X8_rowOf rfl rfl rfl (by decide +kernel) ⟨Nat.le_of_ble_eq_true rfl, Nat.le_of_ble_eq_true rfl⟩) (hw.recv (by decide) hk_RB rfl) rfl rfl hl.1 (Nat.le_of_ble_eq_true rfl) dX8_clicks_10 ?_
    refine tno (fun eo5 => ?_) (fun o5 eo5 => ?_)
    · skip
      refine lv_astoreN (lv' := [(6, .null), (5, .ref (G.2.2 o1)), (0, .ref (G.2.2 0)), (1, .int a1), (2, .int a2), (3, .int a3), (4, .int a4)]) X.1 X.2.1 dX8_clicks_13 hl (by decide) rfl (fun ls hl => ?_)
      refine lv_aload_n X.1 X.2.1 dX8_clicks_15 rfl (lv_at hl 2 rfl) ?_
      refine lv_iload_n X.1 X.2.1 dX8_clicks_16 rfl (lv_at hl 4 rfl) ?_
      refine lv_iload_n X.1 X.2.1 dX8_clicks_17 rfl (lv_at hl 5 rfl) ?_
      refine cVO [.int a2, .int a3] [] X hw (c_X8_rowOf l G A M a2 a3) (cwV 2 X.2.2.2.2 gX8_clicks_X8_rowOf rfl rfl rfl (by decide +kernel) ⟨Nat.le_of_ble_eq_true rfl, Nat.le_of_ble_eq_true rfl⟩) (hw.recv (by decide) hk_RB rfl) rfl rfl hl.1 (Nat.le_of_ble_eq_true rfl) dX8_clicks_18 ?_
      refine tno (fun eo6 => ?_) (fun o6 eo6 => ?_)
      · skip
        refine lv_astoreN (lv' := [(7, .null), (6, .null), (5, .ref (G.2.2 o1)), (0, .ref (G.2.2 0)), (1, .int a1), (2, .int a2), (3, .int a3), (4, .int a4)]) X.1 X.2.1 dX8_clicks_21 hl (by decide) rfl (fun ls hl => ?_)
        refine lv_aload X.1 X.2.1 dX8_clicks_23 (lv_at hl 2 rfl) ?_
        refine lv_ifnull X.1 X.2.1 dX8_clicks_25 ?_
        refine lv_aloadN X.1 X.2.1 dX8_clicks_28 (lv_at hl 1 rfl) ?_
        refine lv_ifnullN (tgt := 38) X.1 X.2.1 dX8_clicks_30 (by decide) ?_
        refine lv_iconst (v := (-1)) X.1 X.2.1 dX8_clicks_38 (by decide) ?_
        exact rQ X hr hlk hw hS dX8_clicks_39
      · skip
        have ho6 : 34 ≤ o6 ∧ o6 < 66 := b_X8_rowOf eo6
        refine lv_astore (lv' := [(7, .ref (G.2.2 o6)), (6, .null), (5, .ref (G.2.2 o1)), (0, .ref (G.2.2 0)), (1, .int a1), (2, .int a2), (3, .int a3), (4, .int a4)]) X.1 X.2.1 dX8_clicks_21 hl (by decide) rfl (fun ls hl => ?_)
        refine lv_aload X.1 X.2.1 dX8_clicks_23 (lv_at hl 2 rfl) ?_
        refine lv_ifnull X.1 X.2.1 dX8_clicks_25 ?_
        refine lv_aloadN X.1 X.2.1 dX8_clicks_28 (lv_at hl 1 rfl) ?_
        refine lv_ifnullN (tgt := 38) X.1 X.2.1 dX8_clicks_30 (by decide) ?_
        refine lv_iconst (v := (-1)) X.1 X.2.1 dX8_clicks_38 (by decide) ?_
        exact rQ X hr hlk hw hS dX8_clicks_39
    · skip
      have ho5 : 34 ≤ o5 ∧ o5 < 66 := b_X8_rowOf eo5
      refine lv_astore (lv' := [(6, .ref (G.2.2 o5)), (5, .ref (G.2.2 o1)), (0, .ref (G.2.2 0)), (1, .int a1), (2, .int a2), (3, .int a3), (4, .int a4)]) X.1 X.2.1 dX8_clicks_13 hl (by decide) rfl (fun ls hl => ?_)
      refine lv_aload_n X.1 X.2.1 dX8_clicks_15 rfl (lv_at hl 2 rfl) ?_
      refine lv_iload_n X.1 X.2.1 dX8_clicks_16 rfl (lv_at hl 4 rfl) ?_
      refine lv_iload_n X.1 X.2.1 dX8_clicks_17 rfl (lv_at hl 5 rfl) ?_
      refine cVO [.int a2, .int a3] [] X hw (c_X8_rowOf l G A M a2 a3) (cwV 2 X.2.2.2.2 gX8_clicks_X8_rowOf rfl rfl rfl (by decide +kernel) ⟨Nat.le_of_ble_eq_true rfl, Nat.le_of_ble_eq_true rfl⟩) (hw.recv (by decide) hk_RB rfl) rfl rfl hl.1 (Nat.le_of_ble_eq_true rfl) dX8_clicks_18 ?_
      refine tno (fun eo7 => ?_) (fun o7 eo7 => ?_)
      · skip
        refine lv_astoreN (lv' := [(7, .null), (6, .ref (G.2.2 o5)), (5, .ref (G.2.2 o1)), (0, .ref (G.2.2 0)), (1, .int a1), (2, .int a2), (3, .int a3), (4, .int a4)]) X.1 X.2.1 dX8_clicks_21 hl (by decide) rfl (fun ls hl => ?_)
        refine lv_aload X.1 X.2.1 dX8_clicks_23 (lv_at hl 2 rfl) ?_
        refine lv_ifnull X.1 X.2.1 dX8_clicks_25 ?_
        refine lv_aload X.1 X.2.1 dX8_clicks_28 (lv_at hl 1 rfl) ?_
        refine lv_ifnull X.1 X.2.1 dX8_clicks_30 ?_
        refine lv_aloadN X.1 X.2.1 dX8_clicks_33 (lv_at hl 0 rfl) ?_
        refine lv_ifnonnullN X.1 X.2.1 dX8_clicks_35 ?_
        refine lv_iconst (v := (-1)) X.1 X.2.1 dX8_clicks_38 (by decide) ?_
        exact rQ X hr hlk hw hS dX8_clicks_39
      · skip
        have ho7 : 34 ≤ o7 ∧ o7 < 66 := b_X8_rowOf eo7
        refine lv_astore (lv' := [(7, .ref (G.2.2 o7)), (6, .ref (G.2.2 o5)), (5, .ref (G.2.2 o1)), (0, .ref (G.2.2 0)), (1, .int a1), (2, .int a2), (3, .int a3), (4, .int a4)]) X.1 X.2.1 dX8_clicks_21 hl (by decide) rfl (fun ls hl => ?_)
        refine lv_aload X.1 X.2.1 dX8_clicks_23 (lv_at hl 2 rfl) ?_
        refine lv_ifnull X.1 X.2.1 dX8_clicks_25 ?_
        refine lv_aload X.1 X.2.1 dX8_clicks_28 (lv_at hl 1 rfl) ?_
        refine lv_ifnull X.1 X.2.1 dX8_clicks_30 ?_
        refine lv_aload X.1 X.2.1 dX8_clicks_33 (lv_at hl 0 rfl) ?_
        refine lv_ifnonnull (tgt := 40) X.1 X.2.1 dX8_clicks_35 (by decide) ?_
        refine lv_aload_n X.1 X.2.1 dX8_clicks_40 rfl (lv_at hl 3 rfl) ?_
        refine gF X hw (by decide) hk_RB rfl (by decide +kernel) 5 (by decide) (ref := "RankBench") rfl (by decide +kernel) rfl dX8_clicks_41 ?_
        refine lv_aload X.1 X.2.1 dX8_clicks_44 (lv_at hl 1 rfl) ?_
        refine lv_aload X.1 X.2.1 dX8_clicks_46 (lv_at hl 0 rfl) ?_
        refine lv_iload X.1 X.2.1 dX8_clicks_48 (lv_at hl 7 rfl) ?_
        refine cVW [.ref (G.2.2 o5), .ref (G.2.2 o7), .int a4] [] X hw hS (c_X4_lay l G A M o5 ho5 o7 ho7 a4) (cwV 3 X.2.2.2.2 gX8_clicks_X4_lay rfl rfl rfl (by decide +kernel) ⟨Nat.le_of_ble_eq_true rfl, Nat.le_of_ble_eq_true rfl⟩) (hw.recv (by decide) hk_Mx rfl) rfl rfl hl.1 (Nat.le_of_ble_eq_true rfl) dX8_clicks_50 (fun H locs hw hS => ?_)
        refine tpb (fun M8 eM8 => ?_)
        rw [← eM8] at hw
        refine lv_aload_n X.1 X.2.1 dX8_clicks_53 rfl (lv_at hl 3 rfl) ?_
        refine gF X hw (by decide) hk_RB rfl (by decide +kernel) 5 (by decide) (ref := "RankBench") rfl (by decide +kernel) rfl dX8_clicks_54 ?_
        refine lv_aload X.1 X.2.1 dX8_clicks_57 (lv_at hl 2 rfl) ?_
        refine cVW [.ref (G.2.2 o1)] [] X hw hS (c_X4_click l G A M8 o1 ho1) (cwV 1 X.2.2.2.2 gX8_clicks_X4_click rfl rfl rfl (by decide +kernel) ⟨Nat.le_of_ble_eq_true rfl, Nat.le_of_ble_eq_true rfl⟩) (hw.recv (by decide) hk_Mx rfl) rfl rfl hl.1 (Nat.le_of_ble_eq_true rfl) dX8_clicks_59 (fun H locs hw hS => ?_)
        refine tpb (fun M9 eM9 => ?_)
        rw [← eM9] at hw
        refine lv_aload_n X.1 X.2.1 dX8_clicks_62 rfl (lv_at hl 3 rfl) ?_
        refine gF X hw (by decide) hk_RB rfl (by decide +kernel) 5 (by decide) (ref := "RankBench") rfl (by decide +kernel) rfl dX8_clicks_63 ?_
        refine cVI [] [] X hw (c_X4_firstClicks l G A M9 ) (cwV 0 X.2.2.2.2 gX8_clicks_X4_firstClicks rfl rfl rfl (by decide +kernel) ⟨Nat.le_of_ble_eq_true rfl, Nat.le_of_ble_eq_true rfl⟩) (hw.recv (by decide) hk_Mx rfl) rfl rfl hl.1 (Nat.le_of_ble_eq_true rfl) dX8_clicks_66 ?_
        refine tni (fun r10 er10 => ?_)
        refine lv_bipush (v := 100) X.1 X.2.1 dX8_clicks_69 (by decide) ?_
        refine lv_aload_n X.1 X.2.1 dX8_clicks_71 rfl (lv_at hl 3 rfl) ?_
        refine gF X hw (by decide) hk_RB rfl (by decide +kernel) 5 (by decide) (ref := "RankBench") rfl (by decide +kernel) rfl dX8_clicks_72 ?_
        refine cVI [] [.int 100, .int r10] X hw (c_X4_secondClicks l G A M9 ) (cwV 0 X.2.2.2.2 gX8_clicks_X4_secondClicks rfl rfl rfl (by decide +kernel) ⟨Nat.le_of_ble_eq_true rfl, Nat.le_of_ble_eq_true rfl⟩) (hw.recv (by decide) hk_Mx rfl) rfl rfl hl.1 (Nat.le_of_ble_eq_true rfl) dX8_clicks_75 ?_
        refine tni (fun r11 er11 => ?_)
        refine lv_imul X.1 X.2.1 dX8_clicks_78 ?_
        refine lv_iadd X.1 X.2.1 dX8_clicks_79 ?_
        exact rQ X hr hlk hw hS dX8_clicks_80

def f_X8_prefer_62 : Nat → Mem → Int32 → Int32 → Nat → Nat → Nat → Int32 → Int32 → Int32 × Mem
  | 0, M, _, _, _, _, _, _, _ => (0, M)
  | n1 + 1, M, v4, v5, v6, v7, v8, v9, v10 => if v5 ≤ v10 then (v9, M) else (bnd (f_X4_lay M v7 v8 (v4 + v10)) (fun M16 => bnd (f_X4_click M16 v6) (fun M17 => bnd (f_X4_firstClicks M17) (fun r18 => bnd (f_X4_secondClicks M17) (fun r19 => if r18 ≤ r19 then (bnd (f_X4_firstClicks M17) (fun r22 => bnd (f_X4_secondClicks M17) (fun r23 => if r23 ≤ r22 then (f_X8_prefer_62 n1 M17 v4 v5 v6 v7 v8 v9 (v10 + 1)) else (f_X8_prefer_62 n1 M17 v4 v5 v6 v7 v8 (v9 + 100) (v10 + 1))))) else (f_X8_prefer_62 n1 M17 v4 v5 v6 v7 v8 (v9 + 1) (v10 + 1)))))))
def f_X8_prefer (M : Mem) (a1 : Int32) (a2 : Int32) (a3 : Int32) (a4 : Int32) (a5 : Int32) : Int32 × Mem := oc (f_X8_questionOf a3) (oc (f_X8_rowOf M a1 a3) (oc (f_X8_rowOf M a2 a3) ((-1), M) (fun o3 => ((-1), M))) (fun o2 => oc (f_X8_rowOf M a2 a3) ((-1), M) (fun o4 => ((-1), M)))) (fun o1 => oc (f_X8_rowOf M a1 a3) (oc (f_X8_rowOf M a2 a3) ((-1), M) (fun o6 => ((-1), M))) (fun o5 => oc (f_X8_rowOf M a2 a3) ((-1), M) (fun o7 => if a5 < 1 then ((-2), M) else (if a5 ≤ 50 then (f_X8_prefer_62 ((a5.toInt - 0 : Int).toNat + 1) M a4 a5 o1 o5 o7 0 0) else ((-2), M)))))
set_option maxRecDepth 100000 in
set_option maxHeartbeats 4000000 in
theorem c_X8_prefer (l : Launch) (G : En) (A : Nat → Prop) (M : Mem) (a1 : Int32) (a2 : Int32) (a3 : Int32) (a4 : Int32) (a5 : Int32) : WrI true l yX8_prefer wsX8_prefer ({ frames := 4, cells := 0, slots := 0, locals := 91 }) G A M [.ref (G.2.2 0), .int a1, .int a2, .int a3, .int a4, .int a5] (f_X8_prefer M a1 a2 a3 a4 a5) := by
  refine WrI.of (cc := cX8_prefer) (maxL := 11) (ret := (some .int)) (own := RX8) (by decide) rfl rfl (Nat.le_of_ble_eq_true rfl) ?_
  intro p e s m below meth c X hw hr hlk ls hl hS
  have hl : lv_has ls 11 [(0, .ref (G.2.2 0)), (1, .int a1), (2, .int a2), (3, .int a3), (4, .int a4), (5, .int a5)] := hl
  unfold f_X8_prefer
  refine lv_aload_n X.1 X.2.1 dX8_prefer_0 rfl (lv_at hl 0 rfl) ?_
  refine lv_iload_n X.1 X.2.1 dX8_prefer_1 rfl (lv_at hl 3 rfl) ?_
  refine cVO [.int a3] [] X hw (c_X8_questionOf l G A M a3) (cwV 1 X.2.2.2.2 gX8_prefer_X8_questionOf rfl rfl rfl (by decide +kernel) ⟨Nat.le_of_ble_eq_true rfl, Nat.le_of_ble_eq_true rfl⟩) (hw.recv (by decide) hk_RB rfl) rfl rfl hl.1 (Nat.le_of_ble_eq_true rfl) dX8_prefer_2 ?_
  refine tno (fun eo1 => ?_) (fun o1 eo1 => ?_)
  · skip
    refine lv_astoreN (lv' := [(6, .null), (0, .ref (G.2.2 0)), (1, .int a1), (2, .int a2), (3, .int a3), (4, .int a4), (5, .int a5)]) X.1 X.2.1 dX8_prefer_5 hl (by decide) rfl (fun ls hl => ?_)
    refine lv_aload_n X.1 X.2.1 dX8_prefer_7 rfl (lv_at hl 1 rfl) ?_
    refine lv_iload_n X.1 X.2.1 dX8_prefer_8 rfl (lv_at hl 2 rfl) ?_
    refine lv_iload_n X.1 X.2.1 dX8_prefer_9 rfl (lv_at hl 4 rfl) ?_
    refine cVO [.int a1, .int a3] [] X hw (c_X8_rowOf l G A M a1 a3) (cwV 2 X.2.2.2.2 gX8_prefer_X8_rowOf rfl rfl rfl (by decide +kernel) ⟨Nat.le_of_ble_eq_true rfl, Nat.le_of_ble_eq_true rfl⟩) (hw.recv (by decide) hk_RB rfl) rfl rfl hl.1 (Nat.le_of_ble_eq_true rfl) dX8_prefer_10 ?_
    refine tno (fun eo2 => ?_) (fun o2 eo2 => ?_)
    · skip
      refine lv_astoreN (lv' := [(7, .null), (6, .null), (0, .ref (G.2.2 0)), (1, .int a1), (2, .int a2), (3, .int a3), (4, .int a4), (5, .int a5)]) X.1 X.2.1 dX8_prefer_13 hl (by decide) rfl (fun ls hl => ?_)
      refine lv_aload_n X.1 X.2.1 dX8_prefer_15 rfl (lv_at hl 2 rfl) ?_
      refine lv_iload_n X.1 X.2.1 dX8_prefer_16 rfl (lv_at hl 4 rfl) ?_
      refine lv_iload_n X.1 X.2.1 dX8_prefer_17 rfl (lv_at hl 5 rfl) ?_
      refine cVO [.int a2, .int a3] [] X hw (c_X8_rowOf l G A M a2 a3) (cwV 2 X.2.2.2.2 gX8_prefer_X8_rowOf rfl rfl rfl (by decide +kernel) ⟨Nat.le_of_ble_eq_true rfl, Nat.le_of_ble_eq_true rfl⟩) (hw.recv (by decide) hk_RB rfl) rfl rfl hl.1 (Nat.le_of_ble_eq_true rfl) dX8_prefer_18 ?_
      refine tno (fun eo3 => ?_) (fun o3 eo3 => ?_)
      · skip
        refine lv_astoreN (lv' := [(8, .null), (7, .null), (6, .null), (0, .ref (G.2.2 0)), (1, .int a1), (2, .int a2), (3, .int a3), (4, .int a4), (5, .int a5)]) X.1 X.2.1 dX8_prefer_21 hl (by decide) rfl (fun ls hl => ?_)
        refine lv_aloadN X.1 X.2.1 dX8_prefer_23 (lv_at hl 2 rfl) ?_
        refine lv_ifnullN (tgt := 38) X.1 X.2.1 dX8_prefer_25 (by decide) ?_
        refine lv_iconst (v := (-1)) X.1 X.2.1 dX8_prefer_38 (by decide) ?_
        exact rQ X hr hlk hw hS dX8_prefer_39
      · skip
        have ho3 : 34 ≤ o3 ∧ o3 < 66 := b_X8_rowOf eo3
        refine lv_astore (lv' := [(8, .ref (G.2.2 o3)), (7, .null), (6, .null), (0, .ref (G.2.2 0)), (1, .int a1), (2, .int a2), (3, .int a3), (4, .int a4), (5, .int a5)]) X.1 X.2.1 dX8_prefer_21 hl (by decide) rfl (fun ls hl => ?_)
        refine lv_aloadN X.1 X.2.1 dX8_prefer_23 (lv_at hl 2 rfl) ?_
        refine lv_ifnullN (tgt := 38) X.1 X.2.1 dX8_prefer_25 (by decide) ?_
        refine lv_iconst (v := (-1)) X.1 X.2.1 dX8_prefer_38 (by decide) ?_
        exact rQ X hr hlk hw hS dX8_prefer_39
    · skip
      have ho2 : 34 ≤ o2 ∧ o2 < 66 := b_X8_rowOf eo2
      refine lv_astore (lv' := [(7, .ref (G.2.2 o2)), (6, .null), (0, .ref (G.2.2 0)), (1, .int a1), (2, .int a2), (3, .int a3), (4, .int a4), (5, .int a5)]) X.1 X.2.1 dX8_prefer_13 hl (by decide) rfl (fun ls hl => ?_)
      refine lv_aload_n X.1 X.2.1 dX8_prefer_15 rfl (lv_at hl 2 rfl) ?_
      refine lv_iload_n X.1 X.2.1 dX8_prefer_16 rfl (lv_at hl 4 rfl) ?_
      refine lv_iload_n X.1 X.2.1 dX8_prefer_17 rfl (lv_at hl 5 rfl) ?_
      refine cVO [.int a2, .int a3] [] X hw (c_X8_rowOf l G A M a2 a3) (cwV 2 X.2.2.2.2 gX8_prefer_X8_rowOf rfl rfl rfl (by decide +kernel) ⟨Nat.le_of_ble_eq_true rfl, Nat.le_of_ble_eq_true rfl⟩) (hw.recv (by decide) hk_RB rfl) rfl rfl hl.1 (Nat.le_of_ble_eq_true rfl) dX8_prefer_18 ?_
      refine tno (fun eo4 => ?_) (fun o4 eo4 => ?_)
      · skip
        refine lv_astoreN (lv' := [(8, .null), (7, .ref (G.2.2 o2)), (6, .null), (0, .ref (G.2.2 0)), (1, .int a1), (2, .int a2), (3, .int a3), (4, .int a4), (5, .int a5)]) X.1 X.2.1 dX8_prefer_21 hl (by decide) rfl (fun ls hl => ?_)
        refine lv_aloadN X.1 X.2.1 dX8_prefer_23 (lv_at hl 2 rfl) ?_
        refine lv_ifnullN (tgt := 38) X.1 X.2.1 dX8_prefer_25 (by decide) ?_
        refine lv_iconst (v := (-1)) X.1 X.2.1 dX8_prefer_38 (by decide) ?_
        exact rQ X hr hlk hw hS dX8_prefer_39
      · skip
        have ho4 : 34 ≤ o4 ∧ o4 < 66 := b_X8_rowOf eo4
        refine lv_astore (lv' := [(8, .ref (G.2.2 o4)), (7, .ref (G.2.2 o2)), (6, .null), (0, .ref (G.2.2 0)), (1, .int a1), (2, .int a2), (3, .int a3), (4, .int a4), (5, .int a5)]) X.1 X.2.1 dX8_prefer_21 hl (by decide) rfl (fun ls hl => ?_)
        refine lv_aloadN X.1 X.2.1 dX8_prefer_23 (lv_at hl 2 rfl) ?_
        refine lv_ifnullN (tgt := 38) X.1 X.2.1 dX8_prefer_25 (by decide) ?_
        refine lv_iconst (v := (-1)) X.1 X.2.1 dX8_prefer_38 (by decide) ?_
        exact rQ X hr hlk hw hS dX8_prefer_39
  · skip
    have ho1 : 10 ≤ o1 ∧ o1 < 18 := b_X8_questionOf eo1
    refine lv_astore (lv' := [(6, .ref (G.2.2 o1)), (0, .ref (G.2.2 0)), (1, .int a1), (2, .int a2), (3, .int a3), (4, .int a4), (5, .int a5)]) X.1 X.2.1 dX8_prefer_5 hl (by decide) rfl (fun ls hl => ?_)
    refine lv_aload_n X.1 X.2.1 dX8_prefer_7 rfl (lv_at hl 1 rfl) ?_
    refine lv_iload_n X.1 X.2.1 dX8_prefer_8 rfl (lv_at hl 2 rfl) ?_
    refine lv_iload_n X.1 X.2.1 dX8_prefer_9 rfl (lv_at hl 4 rfl) ?_
    refine cVO [.int a1, .int a3] [] X hw (c_X8_rowOf l G A M a1 a3) (cwV 2 X.2.2.2.2 gX8_prefer_X8_rowOf rfl rfl rfl (by decide +kernel) ⟨Nat.le_of_ble_eq_true rfl, Nat.le_of_ble_eq_true rfl⟩) (hw.recv (by decide) hk_RB rfl) rfl rfl hl.1 (Nat.le_of_ble_eq_true rfl) dX8_prefer_10 ?_
    refine tno (fun eo5 => ?_) (fun o5 eo5 => ?_)
    · skip
      refine lv_astoreN (lv' := [(7, .null), (6, .ref (G.2.2 o1)), (0, .ref (G.2.2 0)), (1, .int a1), (2, .int a2), (3, .int a3), (4, .int a4), (5, .int a5)]) X.1 X.2.1 dX8_prefer_13 hl (by decide) rfl (fun ls hl => ?_)
      refine lv_aload_n X.1 X.2.1 dX8_prefer_15 rfl (lv_at hl 2 rfl) ?_
      refine lv_iload_n X.1 X.2.1 dX8_prefer_16 rfl (lv_at hl 4 rfl) ?_
      refine lv_iload_n X.1 X.2.1 dX8_prefer_17 rfl (lv_at hl 5 rfl) ?_
      refine cVO [.int a2, .int a3] [] X hw (c_X8_rowOf l G A M a2 a3) (cwV 2 X.2.2.2.2 gX8_prefer_X8_rowOf rfl rfl rfl (by decide +kernel) ⟨Nat.le_of_ble_eq_true rfl, Nat.le_of_ble_eq_true rfl⟩) (hw.recv (by decide) hk_RB rfl) rfl rfl hl.1 (Nat.le_of_ble_eq_true rfl) dX8_prefer_18 ?_
      refine tno (fun eo6 => ?_) (fun o6 eo6 => ?_)
      · skip
        refine lv_astoreN (lv' := [(8, .null), (7, .null), (6, .ref (G.2.2 o1)), (0, .ref (G.2.2 0)), (1, .int a1), (2, .int a2), (3, .int a3), (4, .int a4), (5, .int a5)]) X.1 X.2.1 dX8_prefer_21 hl (by decide) rfl (fun ls hl => ?_)
        refine lv_aload X.1 X.2.1 dX8_prefer_23 (lv_at hl 2 rfl) ?_
        refine lv_ifnull X.1 X.2.1 dX8_prefer_25 ?_
        refine lv_aloadN X.1 X.2.1 dX8_prefer_28 (lv_at hl 1 rfl) ?_
        refine lv_ifnullN (tgt := 38) X.1 X.2.1 dX8_prefer_30 (by decide) ?_
        refine lv_iconst (v := (-1)) X.1 X.2.1 dX8_prefer_38 (by decide) ?_
        exact rQ X hr hlk hw hS dX8_prefer_39
      · skip
        have ho6 : 34 ≤ o6 ∧ o6 < 66 := b_X8_rowOf eo6
        refine lv_astore (lv' := [(8, .ref (G.2.2 o6)), (7, .null), (6, .ref (G.2.2 o1)), (0, .ref (G.2.2 0)), (1, .int a1), (2, .int a2), (3, .int a3), (4, .int a4), (5, .int a5)]) X.1 X.2.1 dX8_prefer_21 hl (by decide) rfl (fun ls hl => ?_)
        refine lv_aload X.1 X.2.1 dX8_prefer_23 (lv_at hl 2 rfl) ?_
        refine lv_ifnull X.1 X.2.1 dX8_prefer_25 ?_
        refine lv_aloadN X.1 X.2.1 dX8_prefer_28 (lv_at hl 1 rfl) ?_
        refine lv_ifnullN (tgt := 38) X.1 X.2.1 dX8_prefer_30 (by decide) ?_
        refine lv_iconst (v := (-1)) X.1 X.2.1 dX8_prefer_38 (by decide) ?_
        exact rQ X hr hlk hw hS dX8_prefer_39
    · skip
      have ho5 : 34 ≤ o5 ∧ o5 < 66 := b_X8_rowOf eo5
      refine lv_astore (lv' := [(7, .ref (G.2.2 o5)), (6, .ref (G.2.2 o1)), (0, .ref (G.2.2 0)), (1, .int a1), (2, .int a2), (3, .int a3), (4, .int a4), (5, .int a5)]) X.1 X.2.1 dX8_prefer_13 hl (by decide) rfl (fun ls hl => ?_)
      refine lv_aload_n X.1 X.2.1 dX8_prefer_15 rfl (lv_at hl 2 rfl) ?_
      refine lv_iload_n X.1 X.2.1 dX8_prefer_16 rfl (lv_at hl 4 rfl) ?_
      refine lv_iload_n X.1 X.2.1 dX8_prefer_17 rfl (lv_at hl 5 rfl) ?_
      refine cVO [.int a2, .int a3] [] X hw (c_X8_rowOf l G A M a2 a3) (cwV 2 X.2.2.2.2 gX8_prefer_X8_rowOf rfl rfl rfl (by decide +kernel) ⟨Nat.le_of_ble_eq_true rfl, Nat.le_of_ble_eq_true rfl⟩) (hw.recv (by decide) hk_RB rfl) rfl rfl hl.1 (Nat.le_of_ble_eq_true rfl) dX8_prefer_18 ?_
      refine tno (fun eo7 => ?_) (fun o7 eo7 => ?_)
      · skip
        refine lv_astoreN (lv' := [(8, .null), (7, .ref (G.2.2 o5)), (6, .ref (G.2.2 o1)), (0, .ref (G.2.2 0)), (1, .int a1), (2, .int a2), (3, .int a3), (4, .int a4), (5, .int a5)]) X.1 X.2.1 dX8_prefer_21 hl (by decide) rfl (fun ls hl => ?_)
        refine lv_aload X.1 X.2.1 dX8_prefer_23 (lv_at hl 2 rfl) ?_
        refine lv_ifnull X.1 X.2.1 dX8_prefer_25 ?_
        refine lv_aload X.1 X.2.1 dX8_prefer_28 (lv_at hl 1 rfl) ?_
        refine lv_ifnull X.1 X.2.1 dX8_prefer_30 ?_
        refine lv_aloadN X.1 X.2.1 dX8_prefer_33 (lv_at hl 0 rfl) ?_
        refine lv_ifnonnullN X.1 X.2.1 dX8_prefer_35 ?_
        refine lv_iconst (v := (-1)) X.1 X.2.1 dX8_prefer_38 (by decide) ?_
        exact rQ X hr hlk hw hS dX8_prefer_39
      · skip
        have ho7 : 34 ≤ o7 ∧ o7 < 66 := b_X8_rowOf eo7
        refine lv_astore (lv' := [(8, .ref (G.2.2 o7)), (7, .ref (G.2.2 o5)), (6, .ref (G.2.2 o1)), (0, .ref (G.2.2 0)), (1, .int a1), (2, .int a2), (3, .int a3), (4, .int a4), (5, .int a5)]) X.1 X.2.1 dX8_prefer_21 hl (by decide) rfl (fun ls hl => ?_)
        refine lv_aload X.1 X.2.1 dX8_prefer_23 (lv_at hl 2 rfl) ?_
        refine lv_ifnull X.1 X.2.1 dX8_prefer_25 ?_
        refine lv_aload X.1 X.2.1 dX8_prefer_28 (lv_at hl 1 rfl) ?_
        refine lv_ifnull X.1 X.2.1 dX8_prefer_30 ?_
        refine lv_aload X.1 X.2.1 dX8_prefer_33 (lv_at hl 0 rfl) ?_
        refine lv_ifnonnull (tgt := 40) X.1 X.2.1 dX8_prefer_35 (by decide) ?_
        refine lv_iload X.1 X.2.1 dX8_prefer_40 (lv_at hl 8 rfl) ?_
        refine lv_iconst (v := 1) X.1 X.2.1 dX8_prefer_42 (by decide) ?_
        refine bi_lt (tgt := 53) X dX8_prefer_43 (by decide) (fun c8 => ?_) (fun c8 => ?_)
        · skip
          have t9 : a5.toInt < 1 := i_lt c8
          refine lv_bipush (v := (-2)) X.1 X.2.1 dX8_prefer_53 (by decide) ?_
          exact rQ X hr hlk hw hS dX8_prefer_55
        · skip
          have t10 : 1 ≤ a5.toInt := i_nlt c8
          refine lv_iload X.1 X.2.1 dX8_prefer_46 (lv_at hl 8 rfl) ?_
          refine lv_bipush (v := 50) X.1 X.2.1 dX8_prefer_48 (by decide) ?_
          refine bi_le (tgt := 56) X dX8_prefer_50 (by decide) (fun c11 => ?_) (fun c11 => ?_)
          · skip
            have t12 : a5.toInt ≤ 50 := i_le c11
            refine lv_iconst (v := 0) X.1 X.2.1 dX8_prefer_56 (by decide) ?_
            refine lv_istore (lv' := [(9, .int 0), (8, .ref (G.2.2 o7)), (7, .ref (G.2.2 o5)), (6, .ref (G.2.2 o1)), (0, .ref (G.2.2 0)), (1, .int a1), (2, .int a2), (3, .int a3), (4, .int a4), (5, .int a5)]) X.1 X.2.1 dX8_prefer_57 hl (by decide) rfl (fun ls hl => ?_)
            refine lv_iconst (v := 0) X.1 X.2.1 dX8_prefer_59 (by decide) ?_
            refine lv_istore (lv' := [(10, .int 0), (9, .int 0), (8, .ref (G.2.2 o7)), (7, .ref (G.2.2 o5)), (6, .ref (G.2.2 o1)), (0, .ref (G.2.2 0)), (1, .int a1), (2, .int a2), (3, .int a3), (4, .int a4), (5, .int a5)]) X.1 X.2.1 dX8_prefer_60 hl (by decide) rfl (fun ls hl => ?_)
            have L1 : ∀ (n1 : Nat) (M : Mem) (v4 : Int32) (v5 : Int32) (v6 : Nat) (v7 : Nat) (v8 : Nat) (v9 : Int32) (v10 : Int32) (hv6 : 10 ≤ v6 ∧ v6 < 18) (hv7 : 34 ≤ v7 ∧ v7 < 66) (hv8 : 34 ≤ v8 ∧ v8 < 66) (hm1 : (v5.toInt - v10.toInt : Int).toNat < n1) (hi1_0 : v5.toInt ≤ 50), ∀ (H : Heap) (locs : List Loc), WD true G A M s H → va_S A s.heap H locs → ∀ ls : Array Slot, lv_has ls 11 [(0, .ref (G.2.2 0)), (4, .int v4), (5, .int v5), (6, .ref (G.2.2 v6)), (7, .ref (G.2.2 v7)), (8, .ref (G.2.2 v8)), (9, .int v9), (10, .int v10)] → W p l e ({ frames := 4, cells := 0, slots := 0, locals := 91 } : Room) s m ([.ref (G.2.2 0), .int a1, .int a2, .int a3, .int a4, .int a5] : List Value).toArray below meth c H locs 0 0 (TQi true G A below ([.ref (G.2.2 0), .int a1, .int a2, .int a3, .int a4, .int a5] : List Value).toArray s (f_X8_prefer_62 n1 M v4 v5 v6 v7 v8 v9 v10)) (F0 m 62 ls []) := by
              intro n1
              induction n1 with
              | zero => intro M v4 v5 v6 v7 v8 v9 v10 hv6 hv7 hv8 hm1 hi1_0; exact absurd hm1 (by omega)
              | succ n1 ih1 =>
                intro M v4 v5 v6 v7 v8 v9 v10 hv6 hv7 hv8 hm1 hi1_0 H locs hw hS ls hl
                rw [f_X8_prefer_62]
                refine lv_iload X.1 X.2.1 dX8_prefer_62 (lv_at hl 7 rfl) ?_
                refine lv_iload X.1 X.2.1 dX8_prefer_64 (lv_at hl 2 rfl) ?_
                refine bi_ge (tgt := 143) X dX8_prefer_66 (by decide) (fun c13 => ?_) (fun c13 => ?_)
                · skip
                  have t14 : v5.toInt ≤ v10.toInt := i_le c13
                  refine lv_iload X.1 X.2.1 dX8_prefer_143 (lv_at hl 6 rfl) ?_
                  exact rQ X hr hlk hw hS dX8_prefer_145
                · skip
                  have t15 : v10.toInt < v5.toInt := i_nle c13
                  refine lv_aload_n X.1 X.2.1 dX8_prefer_69 rfl (lv_at hl 0 rfl) ?_
                  refine gF X hw (by decide) hk_RB rfl (by decide +kernel) 5 (by decide) (ref := "RankBench") rfl (by decide +kernel) rfl dX8_prefer_70 ?_
                  refine lv_aload X.1 X.2.1 dX8_prefer_73 (lv_at hl 4 rfl) ?_
                  refine lv_aload X.1 X.2.1 dX8_prefer_75 (lv_at hl 5 rfl) ?_
                  refine lv_iload X.1 X.2.1 dX8_prefer_77 (lv_at hl 1 rfl) ?_
                  refine lv_iload X.1 X.2.1 dX8_prefer_79 (lv_at hl 7 rfl) ?_
                  refine lv_iadd X.1 X.2.1 dX8_prefer_81 ?_
                  refine cVW [.ref (G.2.2 v7), .ref (G.2.2 v8), .int (v4 + v10)] [] X hw hS (c_X4_lay l G A M v7 hv7 v8 hv8 (v4 + v10)) (cwV 3 X.2.2.2.2 gX8_prefer_X4_lay rfl rfl rfl (by decide +kernel) ⟨Nat.le_of_ble_eq_true rfl, Nat.le_of_ble_eq_true rfl⟩) (hw.recv (by decide) hk_Mx rfl) rfl rfl hl.1 (Nat.le_of_ble_eq_true rfl) dX8_prefer_82 (fun H locs hw hS => ?_)
                  refine tpb (fun M16 eM16 => ?_)
                  rw [← eM16] at hw
                  refine lv_aload_n X.1 X.2.1 dX8_prefer_85 rfl (lv_at hl 0 rfl) ?_
                  refine gF X hw (by decide) hk_RB rfl (by decide +kernel) 5 (by decide) (ref := "RankBench") rfl (by decide +kernel) rfl dX8_prefer_86 ?_
                  refine lv_aload X.1 X.2.1 dX8_prefer_89 (lv_at hl 3 rfl) ?_
                  refine cVW [.ref (G.2.2 v6)] [] X hw hS (c_X4_click l G A M16 v6 hv6) (cwV 1 X.2.2.2.2 gX8_prefer_X4_click rfl rfl rfl (by decide +kernel) ⟨Nat.le_of_ble_eq_true rfl, Nat.le_of_ble_eq_true rfl⟩) (hw.recv (by decide) hk_Mx rfl) rfl rfl hl.1 (Nat.le_of_ble_eq_true rfl) dX8_prefer_91 (fun H locs hw hS => ?_)
                  refine tpb (fun M17 eM17 => ?_)
                  rw [← eM17] at hw
                  refine lv_aload_n X.1 X.2.1 dX8_prefer_94 rfl (lv_at hl 0 rfl) ?_
                  refine gF X hw (by decide) hk_RB rfl (by decide +kernel) 5 (by decide) (ref := "RankBench") rfl (by decide +kernel) rfl dX8_prefer_95 ?_
                  refine cVI [] [] X hw (c_X4_firstClicks l G A M17 ) (cwV 0 X.2.2.2.2 gX8_prefer_X4_firstClicks rfl rfl rfl (by decide +kernel) ⟨Nat.le_of_ble_eq_true rfl, Nat.le_of_ble_eq_true rfl⟩) (hw.recv (by decide) hk_Mx rfl) rfl rfl hl.1 (Nat.le_of_ble_eq_true rfl) dX8_prefer_98 ?_
                  refine tni (fun r18 er18 => ?_)
                  refine lv_aload_n X.1 X.2.1 dX8_prefer_101 rfl (lv_at hl 0 rfl) ?_
                  refine gF X hw (by decide) hk_RB rfl (by decide +kernel) 5 (by decide) (ref := "RankBench") rfl (by decide +kernel) rfl dX8_prefer_102 ?_
                  refine cVI [] [.int r18] X hw (c_X4_secondClicks l G A M17 ) (cwV 0 X.2.2.2.2 gX8_prefer_X4_secondClicks rfl rfl rfl (by decide +kernel) ⟨Nat.le_of_ble_eq_true rfl, Nat.le_of_ble_eq_true rfl⟩) (hw.recv (by decide) hk_Mx rfl) rfl rfl hl.1 (Nat.le_of_ble_eq_true rfl) dX8_prefer_105 ?_
                  refine tni (fun r19 er19 => ?_)
                  refine bi_le (tgt := 117) X dX8_prefer_108 (by decide) (fun c20 => ?_) (fun c20 => ?_)
                  · skip
                    have t21 : r18.toInt ≤ r19.toInt := i_le c20
                    refine lv_aload_n X.1 X.2.1 dX8_prefer_117 rfl (lv_at hl 0 rfl) ?_
                    refine gF X hw (by decide) hk_RB rfl (by decide +kernel) 5 (by decide) (ref := "RankBench") rfl (by decide +kernel) rfl dX8_prefer_118 ?_
                    refine cVI [] [] X hw (c_X4_firstClicks l G A M17 ) (cwV 0 X.2.2.2.2 gX8_prefer_X4_firstClicks rfl rfl rfl (by decide +kernel) ⟨Nat.le_of_ble_eq_true rfl, Nat.le_of_ble_eq_true rfl⟩) (hw.recv (by decide) hk_Mx rfl) rfl rfl hl.1 (Nat.le_of_ble_eq_true rfl) dX8_prefer_121 ?_
                    refine tni (fun r22 er22 => ?_)
                    refine lv_aload_n X.1 X.2.1 dX8_prefer_124 rfl (lv_at hl 0 rfl) ?_
                    refine gF X hw (by decide) hk_RB rfl (by decide +kernel) 5 (by decide) (ref := "RankBench") rfl (by decide +kernel) rfl dX8_prefer_125 ?_
                    refine cVI [] [.int r22] X hw (c_X4_secondClicks l G A M17 ) (cwV 0 X.2.2.2.2 gX8_prefer_X4_secondClicks rfl rfl rfl (by decide +kernel) ⟨Nat.le_of_ble_eq_true rfl, Nat.le_of_ble_eq_true rfl⟩) (hw.recv (by decide) hk_Mx rfl) rfl rfl hl.1 (Nat.le_of_ble_eq_true rfl) dX8_prefer_128 ?_
                    refine tni (fun r23 er23 => ?_)
                    refine bi_ge (tgt := 137) X dX8_prefer_131 (by decide) (fun c24 => ?_) (fun c24 => ?_)
                    · skip
                      have t25 : r23.toInt ≤ r22.toInt := i_le c24
                      refine lv_iinc (v := (v10 + 1)) (lv' := [(10, .int (v10 + 1)), (0, .ref (G.2.2 0)), (4, .int v4), (5, .int v5), (6, .ref (G.2.2 v6)), (7, .ref (G.2.2 v7)), (8, .ref (G.2.2 v8)), (9, .int v9)]) X.1 X.2.1 dX8_prefer_137 hl (k := 7) rfl rfl (by decide) rfl (fun ls hl => ?_)
                      refine lv_goto (tgt := 62) X.1 X.2.1 dX8_prefer_140 (by decide) ?_
                      have q26 := inc_sp v10
                      exact ih1 M17 v4 v5 v6 v7 v8 v9 (v10 + 1) hv6 hv7 hv8 (by omega) (by omega) _ _ hw hS ls (lv_sub hl [1, 2, 3, 4, 5, 6, 7, 0] rfl)
                    · skip
                      have t27 : r22.toInt < r23.toInt := i_nle c24
                      refine lv_iinc (v := (v9 + 100)) (lv' := [(9, .int (v9 + 100)), (0, .ref (G.2.2 0)), (4, .int v4), (5, .int v5), (6, .ref (G.2.2 v6)), (7, .ref (G.2.2 v7)), (8, .ref (G.2.2 v8)), (10, .int v10)]) X.1 X.2.1 dX8_prefer_134 hl (k := 6) rfl rfl (by decide) rfl (fun ls hl => ?_)
                      refine lv_iinc (v := (v10 + 1)) (lv' := [(10, .int (v10 + 1)), (9, .int (v9 + 100)), (0, .ref (G.2.2 0)), (4, .int v4), (5, .int v5), (6, .ref (G.2.2 v6)), (7, .ref (G.2.2 v7)), (8, .ref (G.2.2 v8))]) X.1 X.2.1 dX8_prefer_137 hl (k := 7) rfl rfl (by decide) rfl (fun ls hl => ?_)
                      refine lv_goto (tgt := 62) X.1 X.2.1 dX8_prefer_140 (by decide) ?_
                      have q28 := inc_sp v10
                      exact ih1 M17 v4 v5 v6 v7 v8 (v9 + 100) (v10 + 1) hv6 hv7 hv8 (by omega) (by omega) _ _ hw hS ls (lv_sub hl [2, 3, 4, 5, 6, 7, 1, 0] rfl)
                  · skip
                    have t29 : r19.toInt < r18.toInt := i_nle c20
                    refine lv_iinc (v := (v9 + 1)) (lv' := [(9, .int (v9 + 1)), (0, .ref (G.2.2 0)), (4, .int v4), (5, .int v5), (6, .ref (G.2.2 v6)), (7, .ref (G.2.2 v7)), (8, .ref (G.2.2 v8)), (10, .int v10)]) X.1 X.2.1 dX8_prefer_111 hl (k := 6) rfl rfl (by decide) rfl (fun ls hl => ?_)
                    refine lv_goto (tgt := 137) X.1 X.2.1 dX8_prefer_114 (by decide) ?_
                    refine lv_iinc (v := (v10 + 1)) (lv' := [(10, .int (v10 + 1)), (9, .int (v9 + 1)), (0, .ref (G.2.2 0)), (4, .int v4), (5, .int v5), (6, .ref (G.2.2 v6)), (7, .ref (G.2.2 v7)), (8, .ref (G.2.2 v8))]) X.1 X.2.1 dX8_prefer_137 hl (k := 7) rfl rfl (by decide) rfl (fun ls hl => ?_)
                    refine lv_goto (tgt := 62) X.1 X.2.1 dX8_prefer_140 (by decide) ?_
                    have q30 := inc_sp v9
                    have q31 := inc_sp v10
                    exact ih1 M17 v4 v5 v6 v7 v8 (v9 + 1) (v10 + 1) hv6 hv7 hv8 (by omega) (by omega) _ _ hw hS ls (lv_sub hl [2, 3, 4, 5, 6, 7, 1, 0] rfl)
            exact L1 ((a5.toInt - 0 : Int).toNat + 1) M a4 a5 o1 o5 o7 0 0 ho1 ho5 ho7 (Nat.lt_succ_self _) (by first | omega | decide) _ _ hw hS ls (lv_sub hl [5, 9, 10, 4, 3, 2, 1, 0] rfl)
          · skip
            have t32 : 50 < a5.toInt := i_nle c11
            refine lv_bipush (v := (-2)) X.1 X.2.1 dX8_prefer_53 (by decide) ?_
            exact rQ X hr hlk hw hS dX8_prefer_55
