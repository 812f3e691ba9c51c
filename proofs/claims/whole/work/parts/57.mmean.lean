/-! 57.mmean -/
def f_X9_isMean (a1 : Int32) (a2 : Int32) : Int32 := if a1 < 0 then 0 else (if (8 : Int32) < a1 then 0 else (if a1 = 4 then 0 else (if a1 = 5 then 0 else (bnd (f_X9_isDeep a2) (fun r13 => if r13 = 0 then 0 else 1)))))
set_option maxRecDepth 100000 in
set_option maxHeartbeats 4000000 in
theorem c_X9_isMean (l : Launch) (G : En) (A : Nat → Prop) (M : Mem) (a1 : Int32) (a2 : Int32) : RdI false l yX9_isMean wsX9_isMean ({ frames := 1, cells := 0, slots := 0, locals := 20 }) G A M [.ref (G.2.2 0), .int a1, .int a2] (f_X9_isMean a1 a2) := by
  refine RdI.of (cc := cX9_isMean) (maxL := 3) (ret := (some .boolean)) (own := RX9) (by decide) rfl rfl (Nat.le_of_ble_eq_true rfl) ?_
  intro p e s m below meth c X hw hr hlk ls hl
  have hl : lv_has ls 3 [(0, .ref (G.2.2 0)), (1, .int a1), (2, .int a2)] := hl
  unfold f_X9_isMean
  refine lv_iload_n X.1 X.2.1 dX9_isMean_0 rfl (lv_at hl 1 rfl) ?_
  refine bz_lt (tgt := 31) X dX9_isMean_1 (by decide) (fun c1 => ?_) (fun c1 => ?_)
  · skip
    have t2 : a1.toInt < 0 := i_lt c1
    refine lv_iconst (v := 0) X.1 X.2.1 dX9_isMean_31 (by decide) ?_
    exact rZ X hr hlk rfl dX9_isMean_32
  · skip
    have t3 : 0 ≤ a1.toInt := i_nlt c1
    refine lv_iload_n X.1 X.2.1 dX9_isMean_4 rfl (lv_at hl 1 rfl) ?_
    refine lv_bipush (v := 8) X.1 X.2.1 dX9_isMean_5 (by decide) ?_
    refine bi_gt (tgt := 31) X dX9_isMean_7 (by decide) (fun c4 => ?_) (fun c4 => ?_)
    · skip
      have t5 : 8 < a1.toInt := i_lt c4
      refine lv_iconst (v := 0) X.1 X.2.1 dX9_isMean_31 (by decide) ?_
      exact rZ X hr hlk rfl dX9_isMean_32
    · skip
      have t6 : a1.toInt ≤ 8 := i_nlt c4
      refine lv_iload_n X.1 X.2.1 dX9_isMean_10 rfl (lv_at hl 1 rfl) ?_
      refine lv_iconst (v := 4) X.1 X.2.1 dX9_isMean_11 (by decide) ?_
      refine bi_eq (tgt := 31) X dX9_isMean_12 (by decide) (fun c7 => ?_) (fun c7 => ?_)
      · skip
        have t8 : a1.toInt = 4 := i_eq c7
        refine lv_iconst (v := 0) X.1 X.2.1 dX9_isMean_31 (by decide) ?_
        exact rZ X hr hlk rfl dX9_isMean_32
      · skip
        have t9 : ¬ a1.toInt = 4 := i_ne c7
        refine lv_iload_n X.1 X.2.1 dX9_isMean_15 rfl (lv_at hl 1 rfl) ?_
        refine lv_iconst (v := 5) X.1 X.2.1 dX9_isMean_16 (by decide) ?_
        refine bi_eq (tgt := 31) X dX9_isMean_17 (by decide) (fun c10 => ?_) (fun c10 => ?_)
        · skip
          have t11 : a1.toInt = 5 := i_eq c10
          refine lv_iconst (v := 0) X.1 X.2.1 dX9_isMean_31 (by decide) ?_
          exact rZ X hr hlk rfl dX9_isMean_32
        · skip
          have t12 : ¬ a1.toInt = 5 := i_ne c10
          refine lv_iload_n X.1 X.2.1 dX9_isMean_20 rfl (lv_at hl 2 rfl) ?_
          refine cSI [.int a2] [] X hw (c_X9_isDeep l G A M a2) (va_cwS 1 X.2.2.2.2 gX9_isMean_X9_isDeep rfl rfl rfl (by decide +kernel) ⟨Nat.le_of_ble_eq_true rfl, Nat.le_of_ble_eq_true rfl⟩)  rfl rfl hl.1 (Nat.le_of_ble_eq_true rfl) dX9_isMean_21 ?_
          refine tni (fun r13 er13 => ?_)
          have zr13 := deep_or er13
          refine bz_eq (tgt := 31) X dX9_isMean_24 (by decide) (fun c14 => ?_) (fun c14 => ?_)
          · skip
            have t15 : r13.toInt = 0 := i_eq c14
            refine lv_iconst (v := 0) X.1 X.2.1 dX9_isMean_31 (by decide) ?_
            exact rZ X hr hlk rfl dX9_isMean_32
          · skip
            have t16 : ¬ r13.toInt = 0 := i_ne c14
            refine lv_iconst (v := 1) X.1 X.2.1 dX9_isMean_27 (by decide) ?_
            refine lv_goto (tgt := 32) X.1 X.2.1 dX9_isMean_28 (by decide) ?_
            exact rZ X hr hlk rfl dX9_isMean_32
theorem mean_or {r a b : Int32} (e : r = f_X9_isMean a b) : r.toInt = 0 ∨ (1 ≤ b.toInt ∧ b.toInt ≤ 16) := by
  subst e
  unfold f_X9_isMean
  dsimp only [bnd]
  split
  · exact Or.inl rfl
  · split
    · exact Or.inl rfl
    · split
      · exact Or.inl rfl
      · split
        · exact Or.inl rfl
        · split
          · exact Or.inl rfl
          · rename_i h
            rcases deep_or (a := b) rfl with h2 | h2
            · exact absurd (Int32.toInt_inj.mp h2) h
            · exact Or.inr h2

def f_X9_counts (M : Mem) (a1 : Int32) (a2 : Int32) : Int32 := if (M.1 4 ((8 * a1) + a2).toNatClampNeg) = 0 then 0 else (bnd (f_X9_rs M a2) (fun r4 => if r4 ≤ 0 then 0 else 1))
set_option maxRecDepth 100000 in
set_option maxHeartbeats 4000000 in
theorem c_X9_counts (l : Launch) (G : En) (A : Nat → Prop) (M : Mem) (a1 : Int32) (a2 : Int32) (hra : 0 ≤ a1.toInt ∧ a1.toInt < 4) (hqa : 0 ≤ a2.toInt ∧ a2.toInt < 8) : RdI false l yX9_counts wsX9_counts ({ frames := 3, cells := 0, slots := 0, locals := 68 }) G A M [.ref (G.2.2 0), .int a1, .int a2] (f_X9_counts M a1 a2) := by
  refine RdI.of (cc := cX9_counts) (maxL := 3) (ret := (some .boolean)) (own := RX9) (by decide) rfl rfl (Nat.le_of_ble_eq_true rfl) ?_
  intro p e s m below meth c X hw hr hlk ls hl
  have hl : lv_has ls 3 [(0, .ref (G.2.2 0)), (1, .int a1), (2, .int a2)] := hl
  unfold f_X9_counts
  refine lv_aload_n X.1 X.2.1 dX9_counts_0 rfl (lv_at hl 0 rfl) ?_
  refine gF X hw (by decide) hm_MO rfl (by decide +kernel) 3 (by decide) (ref := "RankBenchModel") rfl (by decide +kernel) rfl dX9_counts_1 ?_
  refine lv_bipush (v := 8) X.1 X.2.1 dX9_counts_4 (by decide) ?_
  refine lv_iload_n X.1 X.2.1 dX9_counts_6 rfl (lv_at hl 1 rfl) ?_
  refine lv_imul X.1 X.2.1 dX9_counts_7 ?_
  refine lv_iload_n X.1 X.2.1 dX9_counts_8 rfl (lv_at hl 2 rfl) ?_
  refine lv_iadd X.1 X.2.1 dX9_counts_9 ?_
  have ix9 := ix8 (r := a1) (q := a2) (by omega) (by omega)
  refine aZ X hw (by decide) hm_mt (vp_in_iff.mpr ⟨by omega, by omega⟩) dX9_counts_10 ?_
  refine bz_eq (tgt := 26) X dX9_counts_11 (by decide) (fun c1 => ?_) (fun c1 => ?_)
  · skip
    have t2 : (M.1 4 ((8 * a1) + a2).toNatClampNeg).toInt = 0 := i_eq c1
    refine lv_iconst (v := 0) X.1 X.2.1 dX9_counts_26 (by decide) ?_
    exact rZ X hr hlk rfl dX9_counts_27
  · skip
    have t3 : ¬ (M.1 4 ((8 * a1) + a2).toNatClampNeg).toInt = 0 := i_ne c1
    refine lv_aload_n X.1 X.2.1 dX9_counts_14 rfl (lv_at hl 0 rfl) ?_
    refine lv_iload_n X.1 X.2.1 dX9_counts_15 rfl (lv_at hl 2 rfl) ?_
    refine cVI [.int a2] [] X hw (c_X9_rs l G A M a2 (by omega)) (cwV 1 X.2.2.2.2 gX9_counts_X9_rs rfl rfl rfl (by decide +kernel) ⟨Nat.le_of_ble_eq_true rfl, Nat.le_of_ble_eq_true rfl⟩) (hw.recv (by decide) hm_MO rfl) rfl rfl hl.1 (Nat.le_of_ble_eq_true rfl) dX9_counts_16 ?_
    refine tni (fun r4 er4 => ?_)
    refine bz_le (tgt := 26) X dX9_counts_19 (by decide) (fun c5 => ?_) (fun c5 => ?_)
    · skip
      have t6 : r4.toInt ≤ 0 := i_le c5
      refine lv_iconst (v := 0) X.1 X.2.1 dX9_counts_26 (by decide) ?_
      exact rZ X hr hlk rfl dX9_counts_27
    · skip
      have t7 : 0 < r4.toInt := i_nle c5
      refine lv_iconst (v := 1) X.1 X.2.1 dX9_counts_22 (by decide) ?_
      refine lv_goto (tgt := 27) X.1 X.2.1 dX9_counts_23 (by decide) ?_
      exact rZ X hr hlk rfl dX9_counts_27

def f_X9_mean_33 : Nat → Mem → Int32 → Int32 → Int32 → Int32 → Int64 → Int64 → Int32 → Int32 × Mem
  | 0, M, _, _, _, _, _, _, _ => (0, M)
  | n1 + 1, M, v1, v2, v3, v4, v5, v7, v9 => if (8 : Int32) ≤ v9 then (if v4 = 0 then ((-3), M) else (bnd (f_X9_make M v5 v7) (fun M11 => bnd (f_X9_over M11 v4.toInt64) (fun M12 => bnd (f_X9_show M12) (fun M13 => (v4, M13)))))) else (bnd (f_X9_counts M v1 v9) (fun r16 => if r16 = 0 then (f_X9_mean_33 n1 M v1 v2 v3 v4 v5 v7 (v9 + 1)) else (bnd (f_X9_reckon M v1 v9 v2 v3) (fun M21 => bnd (f_X9_plus M21 v5 v7) (fun M22 => bnd (M22.2 0 6) (fun w23 => bnd (M22.2 0 7) (fun w24 => f_X9_mean_33 n1 M22 v1 v2 v3 (v4 + 1) w23 w24 (v9 + 1))))))))
def f_X9_mean (M : Mem) (a1 : Int32) (a2 : Int32) (a3 : Int32) : Int32 × Mem := bnd (f_X9_isRanker a1) (fun r1 => if r1 = 0 then ((-1), M) else (bnd (f_X9_isMean a2 a3) (fun r4 => if r4 = 0 then ((-2), M) else (f_X9_mean_33 9 M a1 a2 a3 0 0 1 0))))
set_option maxRecDepth 100000 in
set_option maxHeartbeats 4000000 in
theorem c_X9_mean (l : Launch) (G : En) (A : Nat → Prop) (M : Mem) (a1 : Int32) (a2 : Int32) (a3 : Int32) : WrI false l yX9_mean wsX9_mean ({ frames := 6, cells := 0, slots := 0, locals := 162 }) G A M [.ref (G.2.2 0), .int a1, .int a2, .int a3] (f_X9_mean M a1 a2 a3) := by
  refine WrI.of (cc := cX9_mean) (maxL := 10) (ret := (some .int)) (own := RX9) (by decide) rfl rfl (Nat.le_of_ble_eq_true rfl) ?_
  intro p e s m below meth c X hw hr hlk ls hl hS
  have hl : lv_has ls 10 [(0, .ref (G.2.2 0)), (1, .int a1), (2, .int a2), (3, .int a3)] := hl
  unfold f_X9_mean
  refine lv_iload_n X.1 X.2.1 dX9_mean_0 rfl (lv_at hl 1 rfl) ?_
  refine cSI [.int a1] [] X hw (c_X9_isRanker l G A M a1) (va_cwS 1 X.2.2.2.2 gX9_mean_X9_isRanker rfl rfl rfl (by decide +kernel) ⟨Nat.le_of_ble_eq_true rfl, Nat.le_of_ble_eq_true rfl⟩)  rfl rfl hl.1 (Nat.le_of_ble_eq_true rfl) dX9_mean_1 ?_
  refine tni (fun r1 er1 => ?_)
  have zr1 := rk_or er1
  refine bz_ne (tgt := 9) X dX9_mean_4 (by decide) (fun c2 => ?_) (fun c2 => ?_)
  · skip
    have t3 : ¬ r1.toInt = 0 := i_ne c2
    refine lv_aload_n X.1 X.2.1 dX9_mean_9 rfl (lv_at hl 0 rfl) ?_
    refine lv_iload_n X.1 X.2.1 dX9_mean_10 rfl (lv_at hl 2 rfl) ?_
    refine lv_iload_n X.1 X.2.1 dX9_mean_11 rfl (lv_at hl 3 rfl) ?_
    refine cVI [.int a2, .int a3] [] X hw (c_X9_isMean l G A M a2 a3) (cwV 2 X.2.2.2.2 gX9_mean_X9_isMean rfl rfl rfl (by decide +kernel) ⟨Nat.le_of_ble_eq_true rfl, Nat.le_of_ble_eq_true rfl⟩) (hw.recv (by decide) hm_MO rfl) rfl rfl hl.1 (Nat.le_of_ble_eq_true rfl) dX9_mean_12 ?_
    refine tni (fun r4 er4 => ?_)
    have zr4 := mean_or er4
    refine bz_ne (tgt := 21) X dX9_mean_15 (by decide) (fun c5 => ?_) (fun c5 => ?_)
    · skip
      have t6 : ¬ r4.toInt = 0 := i_ne c5
      refine lv_iconst (v := 0) X.1 X.2.1 dX9_mean_21 (by decide) ?_
      refine lv_istore (lv' := [(4, .int 0), (0, .ref (G.2.2 0)), (1, .int a1), (2, .int a2), (3, .int a3)]) X.1 X.2.1 dX9_mean_22 hl (by decide) rfl (fun ls hl => ?_)
      refine lv_lconst (v := 0) X.1 X.2.1 dX9_mean_24 (by decide) ?_
      refine lv_lstore (lv' := [(5, .long 0), (4, .int 0), (0, .ref (G.2.2 0)), (1, .int a1), (2, .int a2), (3, .int a3)]) X.1 X.2.1 dX9_mean_25 hl (by decide) rfl (fun ls hl => ?_)
      refine lv_lconst (v := 1) X.1 X.2.1 dX9_mean_27 (by decide) ?_
      refine lv_lstore (lv' := [(7, .long 1), (5, .long 0), (4, .int 0), (0, .ref (G.2.2 0)), (1, .int a1), (2, .int a2), (3, .int a3)]) X.1 X.2.1 dX9_mean_28 hl (by decide) rfl (fun ls hl => ?_)
      refine lv_iconst (v := 0) X.1 X.2.1 dX9_mean_30 (by decide) ?_
      refine lv_istore (lv' := [(9, .int 0), (7, .long 1), (5, .long 0), (4, .int 0), (0, .ref (G.2.2 0)), (1, .int a1), (2, .int a2), (3, .int a3)]) X.1 X.2.1 dX9_mean_31 hl (by decide) rfl (fun ls hl => ?_)
      have L1 : ∀ (n1 : Nat) (M : Mem) (v1 : Int32) (v2 : Int32) (v3 : Int32) (v4 : Int32) (v5 : Int64) (v7 : Int64) (v9 : Int32)  (hm1 : (8 - v9.toInt : Int).toNat < n1) (hi1_0 : 0 ≤ v9.toInt) (hi1_1 : 0 ≤ v1.toInt ∧ v1.toInt < 4) (hi1_2 : 1 ≤ v3.toInt ∧ v3.toInt ≤ 16) (hi1_3 : ¬ v7 = 0), ∀ (H : Heap) (locs : List Loc), WD false G A M s H → va_S A s.heap H locs → ∀ ls : Array Slot, lv_has ls 10 [(0, .ref (G.2.2 0)), (1, .int v1), (2, .int v2), (3, .int v3), (4, .int v4), (5, .long v5), (7, .long v7), (9, .int v9)] → W p l e ({ frames := 6, cells := 0, slots := 0, locals := 162 } : Room) s m ([.ref (G.2.2 0), .int a1, .int a2, .int a3] : List Value).toArray below meth c H locs 0 0 (TQi false G A below ([.ref (G.2.2 0), .int a1, .int a2, .int a3] : List Value).toArray s (f_X9_mean_33 n1 M v1 v2 v3 v4 v5 v7 v9)) (F0 m 33 ls []) := by
        intro n1
        induction n1 with
        | zero => intro M v1 v2 v3 v4 v5 v7 v9 hm1 hi1_0 hi1_1 hi1_2 hi1_3; exact absurd hm1 (by omega)
        | succ n1 ih1 =>
          intro M v1 v2 v3 v4 v5 v7 v9 hm1 hi1_0 hi1_1 hi1_2 hi1_3 H locs hw hS ls hl
          rw [f_X9_mean_33]
          refine lv_iload X.1 X.2.1 dX9_mean_33 (lv_at hl 7 rfl) ?_
          refine lv_bipush (v := 8) X.1 X.2.1 dX9_mean_35 (by decide) ?_
          refine bi_ge (tgt := 88) X dX9_mean_37 (by decide) (fun c7 => ?_) (fun c7 => ?_)
          · skip
            have t8 : 8 ≤ v9.toInt := i_le c7
            refine lv_iload X.1 X.2.1 dX9_mean_88 (lv_at hl 4 rfl) ?_
            refine bz_ne (tgt := 96) X dX9_mean_90 (by decide) (fun c9 => ?_) (fun c9 => ?_)
            · skip
              have t10 : ¬ v4.toInt = 0 := i_ne c9
              refine lv_aload_n X.1 X.2.1 dX9_mean_96 rfl (lv_at hl 0 rfl) ?_
              refine lv_lload X.1 X.2.1 dX9_mean_97 (lv_at hl 5 rfl) ?_
              refine lv_lload X.1 X.2.1 dX9_mean_99 (lv_at hl 6 rfl) ?_
              refine cVW [.long v5, .long v7] [] X hw hS (c_X9_make l G A M v5 v7) (cwV 2 X.2.2.2.2 gX9_mean_X9_make rfl rfl rfl (by decide +kernel) ⟨Nat.le_of_ble_eq_true rfl, Nat.le_of_ble_eq_true rfl⟩) (hw.recv (by decide) hm_MO rfl) rfl rfl hl.1 (Nat.le_of_ble_eq_true rfl) dX9_mean_101 (fun H locs hw hS => ?_)
              refine tpb (fun M11 eM11 => ?_)
              rw [← eM11] at hw
              refine lv_aload_n X.1 X.2.1 dX9_mean_104 rfl (lv_at hl 0 rfl) ?_
              refine lv_iload X.1 X.2.1 dX9_mean_105 (lv_at hl 4 rfl) ?_
              refine lv_i2l (v := v4.toInt64) X.1 X.2.1 dX9_mean_107 rfl ?_
              refine cVW [.long v4.toInt64] [] X hw hS (c_X9_over l G A M11 v4.toInt64) (cwV 1 X.2.2.2.2 gX9_mean_X9_over rfl rfl rfl (by decide +kernel) ⟨Nat.le_of_ble_eq_true rfl, Nat.le_of_ble_eq_true rfl⟩) (hw.recv (by decide) hm_MO rfl) rfl rfl hl.1 (Nat.le_of_ble_eq_true rfl) dX9_mean_108 (fun H locs hw hS => ?_)
              refine tpb (fun M12 eM12 => ?_)
              rw [← eM12] at hw
              refine lv_aload_n X.1 X.2.1 dX9_mean_111 rfl (lv_at hl 0 rfl) ?_
              refine cVW [] [] X hw hS (c_X9_show l G A M12 ) (cwV 0 X.2.2.2.2 gX9_mean_X9_show rfl rfl rfl (by decide +kernel) ⟨Nat.le_of_ble_eq_true rfl, Nat.le_of_ble_eq_true rfl⟩) (hw.recv (by decide) hm_MO rfl) rfl rfl hl.1 (Nat.le_of_ble_eq_true rfl) dX9_mean_112 (fun H locs hw hS => ?_)
              refine tpb (fun M13 eM13 => ?_)
              rw [← eM13] at hw
              refine lv_iload X.1 X.2.1 dX9_mean_115 (lv_at hl 4 rfl) ?_
              exact rQ X hr hlk hw hS dX9_mean_117
            · skip
              have t14 : v4.toInt = 0 := i_eq c9
              refine lv_bipush (v := (-3)) X.1 X.2.1 dX9_mean_93 (by decide) ?_
              exact rQ X hr hlk hw hS dX9_mean_95
          · skip
            have t15 : v9.toInt < 8 := i_nle c7
            refine lv_aload_n X.1 X.2.1 dX9_mean_40 rfl (lv_at hl 0 rfl) ?_
            refine lv_iload_n X.1 X.2.1 dX9_mean_41 rfl (lv_at hl 1 rfl) ?_
            refine lv_iload X.1 X.2.1 dX9_mean_42 (lv_at hl 7 rfl) ?_
            refine cVI [.int v1, .int v9] [] X hw (c_X9_counts l G A M v1 v9 (by omega) (by omega)) (cwV 2 X.2.2.2.2 gX9_mean_X9_counts rfl rfl rfl (by decide +kernel) ⟨Nat.le_of_ble_eq_true rfl, Nat.le_of_ble_eq_true rfl⟩) (hw.recv (by decide) hm_MO rfl) rfl rfl hl.1 (Nat.le_of_ble_eq_true rfl) dX9_mean_44 ?_
            refine tni (fun r16 er16 => ?_)
            refine bz_eq (tgt := 82) X dX9_mean_47 (by decide) (fun c17 => ?_) (fun c17 => ?_)
            · skip
              have t18 : r16.toInt = 0 := i_eq c17
              refine lv_iinc (v := (v9 + 1)) (lv' := [(9, .int (v9 + 1)), (0, .ref (G.2.2 0)), (1, .int v1), (2, .int v2), (3, .int v3), (4, .int v4), (5, .long v5), (7, .long v7)]) X.1 X.2.1 dX9_mean_82 hl (k := 7) rfl rfl (by decide) rfl (fun ls hl => ?_)
              refine lv_goto (tgt := 33) X.1 X.2.1 dX9_mean_85 (by decide) ?_
              have q19 := inc_sp v9
              exact ih1 M v1 v2 v3 v4 v5 v7 (v9 + 1) (by omega) (by omega) (by omega) (by omega) (by first | assumption | exact ne_of ev7 (okM_nz hw.2.2.2.2)) _ _ hw hS ls (lv_sub hl [1, 2, 3, 4, 5, 6, 7, 0] rfl)
            · skip
              have t20 : ¬ r16.toInt = 0 := i_ne c17
              refine lv_iinc (v := (v4 + 1)) (lv' := [(4, .int (v4 + 1)), (0, .ref (G.2.2 0)), (1, .int v1), (2, .int v2), (3, .int v3), (5, .long v5), (7, .long v7), (9, .int v9)]) X.1 X.2.1 dX9_mean_50 hl (k := 4) rfl rfl (by decide) rfl (fun ls hl => ?_)
              refine lv_aload_n X.1 X.2.1 dX9_mean_53 rfl (lv_at hl 1 rfl) ?_
              refine lv_iload_n X.1 X.2.1 dX9_mean_54 rfl (lv_at hl 2 rfl) ?_
              refine lv_iload X.1 X.2.1 dX9_mean_55 (lv_at hl 7 rfl) ?_
              refine lv_iload_n X.1 X.2.1 dX9_mean_57 rfl (lv_at hl 3 rfl) ?_
              refine lv_iload_n X.1 X.2.1 dX9_mean_58 rfl (lv_at hl 4 rfl) ?_
              refine cVW [.int v1, .int v9, .int v2, .int v3] [] X hw hS (c_X9_reckon l G A M v1 v9 v2 v3 (by omega) (by omega) (by omega)) (cwV 4 X.2.2.2.2 gX9_mean_X9_reckon rfl rfl rfl (by decide +kernel) ⟨Nat.le_of_ble_eq_true rfl, Nat.le_of_ble_eq_true rfl⟩) (hw.recv (by decide) hm_MO rfl) rfl rfl hl.1 (Nat.le_of_ble_eq_true rfl) dX9_mean_59 (fun H locs hw hS => ?_)
              refine tpb (fun M21 eM21 => ?_)
              rw [← eM21] at hw
              refine lv_aload_n X.1 X.2.1 dX9_mean_62 rfl (lv_at hl 1 rfl) ?_
              refine lv_lload X.1 X.2.1 dX9_mean_63 (lv_at hl 5 rfl) ?_
              refine lv_lload X.1 X.2.1 dX9_mean_65 (lv_at hl 6 rfl) ?_
              refine cVW [.long v5, .long v7] [] X hw hS (c_X9_plus l G A M21 v5 v7 (by assumption)) (cwV 2 X.2.2.2.2 gX9_mean_X9_plus rfl rfl rfl (by decide +kernel) ⟨Nat.le_of_ble_eq_true rfl, Nat.le_of_ble_eq_true rfl⟩) (hw.recv (by decide) hm_MO rfl) rfl rfl hl.1 (Nat.le_of_ble_eq_true rfl) dX9_mean_67 (fun H locs hw hS => ?_)
              refine tpb (fun M22 eM22 => ?_)
              rw [← eM22] at hw
              refine lv_aload_n X.1 X.2.1 dX9_mean_70 rfl (lv_at hl 1 rfl) ?_
              refine gF X hw (by decide) hm_MO rfl (by decide +kernel) 6 (by decide) (ref := "RankBenchModel") rfl (by decide +kernel) rfl dX9_mean_71 ?_
              refine tnl (fun w23 ew23 => ?_)
              refine lv_lstore (lv' := [(5, .long w23), (4, .int (v4 + 1)), (0, .ref (G.2.2 0)), (1, .int v1), (2, .int v2), (3, .int v3), (7, .long v7), (9, .int v9)]) X.1 X.2.1 dX9_mean_74 hl (by decide) rfl (fun ls hl => ?_)
              refine lv_aload_n X.1 X.2.1 dX9_mean_76 rfl (lv_at hl 2 rfl) ?_
              refine gF X hw (by decide) hm_MO rfl (by decide +kernel) 7 (by decide) (ref := "RankBenchModel") rfl (by decide +kernel) rfl dX9_mean_77 ?_
              refine tnl (fun w24 ew24 => ?_)
              refine lv_lstore (lv' := [(7, .long w24), (5, .long w23), (4, .int (v4 + 1)), (0, .ref (G.2.2 0)), (1, .int v1), (2, .int v2), (3, .int v3), (9, .int v9)]) X.1 X.2.1 dX9_mean_80 hl (by decide) rfl (fun ls hl => ?_)
              refine lv_iinc (v := (v9 + 1)) (lv' := [(9, .int (v9 + 1)), (7, .long w24), (5, .long w23), (4, .int (v4 + 1)), (0, .ref (G.2.2 0)), (1, .int v1), (2, .int v2), (3, .int v3)]) X.1 X.2.1 dX9_mean_82 hl (k := 7) rfl rfl (by decide) rfl (fun ls hl => ?_)
              refine lv_goto (tgt := 33) X.1 X.2.1 dX9_mean_85 (by decide) ?_
              have q25 := inc_sp v4
              have q26 := inc_sp v9
              exact ih1 M22 v1 v2 v3 (v4 + 1) w23 w24 (v9 + 1) (by omega) (by omega) (by omega) (by omega) (by first | assumption | exact ne_of ew24 (okM_nz hw.2.2.2.2)) _ _ hw hS ls (lv_sub hl [4, 5, 6, 7, 3, 2, 1, 0] rfl)
      exact L1 9 M a1 a2 a3 0 0 1 0 (by decide) (by first | omega | decide) (by first | omega | decide) (by first | omega | decide) (by decide) _ _ hw hS ls (lv_sub hl [4, 5, 6, 7, 3, 2, 1, 0] rfl)
    · skip
      have t27 : r4.toInt = 0 := i_eq c5
      refine lv_bipush (v := (-2)) X.1 X.2.1 dX9_mean_18 (by decide) ?_
      exact rQ X hr hlk hw hS dX9_mean_20
  · skip
    have t28 : r1.toInt = 0 := i_eq c2
    refine lv_iconst (v := (-1)) X.1 X.2.1 dX9_mean_7 (by decide) ?_
    exact rQ X hr hlk hw hS dX9_mean_8

def f_X9_differences_6 : Nat → Mem → Int32 → Int32 → Int32 → Int32 → Int32 → Int32 → Int32 × Mem
  | 0, M, _, _, _, _, _, _ => (0, M)
  | n1 + 1, M, v1, v2, v3, v4, v5, v6 => if (8 : Int32) ≤ v6 then (v5, M) else (bnd (f_X9_counts M v1 v6) (fun r4 => if r4 = 0 then (f_X9_differences_6 n1 M v1 v2 v3 v4 v5 (v6 + 1)) else (bnd (f_X9_counts M v2 v6) (fun r9 => if r9 = 0 then (f_X9_differences_6 n1 M v1 v2 v3 v4 v5 (v6 + 1)) else (bnd (f_X9_reckon M v2 v6 v3 v4) (fun M14 => bnd (M14.2 0 6) (fun w15 => bnd (M14.2 0 7) (fun w16 => bnd (f_X9_reckon M14 v1 v6 v3 v4) (fun M17 => bnd (f_X9_plus M17 (-w15) w16) (fun M18 => bnd (M18.2 0 6) (fun w19 => bnd (ul M18 5 v5.toNatClampNeg w19) (fun M20 => bnd (M20.2 0 7) (fun w21 => bnd (ul M20 6 v5.toNatClampNeg w21) (fun M22 => f_X9_differences_6 n1 M22 v1 v2 v3 v4 (v5 + 1) (v6 + 1)))))))))))))))
def f_X9_differences (M : Mem) (a1 : Int32) (a2 : Int32) (a3 : Int32) (a4 : Int32) : Int32 × Mem := f_X9_differences_6 9 M a1 a2 a3 a4 0 0
set_option maxRecDepth 100000 in
set_option maxHeartbeats 4000000 in
theorem c_X9_differences (l : Launch) (G : En) (A : Nat → Prop) (M : Mem) (a1 : Int32) (a2 : Int32) (a3 : Int32) (a4 : Int32) (hra : 0 ≤ a1.toInt ∧ a1.toInt < 4) (hrb : 0 ≤ a2.toInt ∧ a2.toInt < 4) (hk : 1 ≤ a4.toInt ∧ a4.toInt ≤ 16) : WrI false l yX9_differences wsX9_differences ({ frames := 6, cells := 0, slots := 0, locals := 162 }) G A M [.ref (G.2.2 0), .int a1, .int a2, .int a3, .int a4] (f_X9_differences M a1 a2 a3 a4) := by
  refine WrI.of (cc := cX9_differences) (maxL := 11) (ret := (some .int)) (own := RX9) (by decide) rfl rfl (Nat.le_of_ble_eq_true rfl) ?_
  intro p e s m below meth c X hw hr hlk ls hl hS
  have hl : lv_has ls 11 [(0, .ref (G.2.2 0)), (1, .int a1), (2, .int a2), (3, .int a3), (4, .int a4)] := hl
  unfold f_X9_differences
  refine lv_iconst (v := 0) X.1 X.2.1 dX9_differences_0 (by decide) ?_
  refine lv_istore (lv' := [(5, .int 0), (0, .ref (G.2.2 0)), (1, .int a1), (2, .int a2), (3, .int a3), (4, .int a4)]) X.1 X.2.1 dX9_differences_1 hl (by decide) rfl (fun ls hl => ?_)
  refine lv_iconst (v := 0) X.1 X.2.1 dX9_differences_3 (by decide) ?_
  refine lv_istore (lv' := [(6, .int 0), (5, .int 0), (0, .ref (G.2.2 0)), (1, .int a1), (2, .int a2), (3, .int a3), (4, .int a4)]) X.1 X.2.1 dX9_differences_4 hl (by decide) rfl (fun ls hl => ?_)
  have L1 : ∀ (n1 : Nat) (M : Mem) (v1 : Int32) (v2 : Int32) (v3 : Int32) (v4 : Int32) (v5 : Int32) (v6 : Int32)  (hm1 : (8 - v6.toInt : Int).toNat < n1) (hi1_0 : 0 ≤ v6.toInt) (hi1_1 : 0 ≤ v5.toInt ∧ v5.toInt ≤ v6.toInt) (hi1_2 : 0 ≤ v1.toInt ∧ v1.toInt < 4) (hi1_3 : 0 ≤ v2.toInt ∧ v2.toInt < 4) (hi1_4 : 1 ≤ v4.toInt ∧ v4.toInt ≤ 16), ∀ (H : Heap) (locs : List Loc), WD false G A M s H → va_S A s.heap H locs → ∀ ls : Array Slot, lv_has ls 11 [(0, .ref (G.2.2 0)), (1, .int v1), (2, .int v2), (3, .int v3), (4, .int v4), (5, .int v5), (6, .int v6)] → W p l e ({ frames := 6, cells := 0, slots := 0, locals := 162 } : Room) s m ([.ref (G.2.2 0), .int a1, .int a2, .int a3, .int a4] : List Value).toArray below meth c H locs 0 0 (TQi false G A below ([.ref (G.2.2 0), .int a1, .int a2, .int a3, .int a4] : List Value).toArray s (f_X9_differences_6 n1 M v1 v2 v3 v4 v5 v6)) (F0 m 6 ls []) := by
    intro n1
    induction n1 with
    | zero => intro M v1 v2 v3 v4 v5 v6 hm1 hi1_0 hi1_1 hi1_2 hi1_3 hi1_4; exact absurd hm1 (by omega)
    | succ n1 ih1 =>
      intro M v1 v2 v3 v4 v5 v6 hm1 hi1_0 hi1_1 hi1_2 hi1_3 hi1_4 H locs hw hS ls hl
      rw [f_X9_differences_6]
      refine lv_iload X.1 X.2.1 dX9_differences_6 (lv_at hl 6 rfl) ?_
      refine lv_bipush (v := 8) X.1 X.2.1 dX9_differences_8 (by decide) ?_
      refine bi_ge (tgt := 105) X dX9_differences_10 (by decide) (fun c1 => ?_) (fun c1 => ?_)
      · skip
        have t2 : 8 ≤ v6.toInt := i_le c1
        refine lv_iload X.1 X.2.1 dX9_differences_105 (lv_at hl 5 rfl) ?_
        exact rQ X hr hlk hw hS dX9_differences_107
      · skip
        have t3 : v6.toInt < 8 := i_nle c1
        refine lv_aload_n X.1 X.2.1 dX9_differences_13 rfl (lv_at hl 0 rfl) ?_
        refine lv_iload_n X.1 X.2.1 dX9_differences_14 rfl (lv_at hl 1 rfl) ?_
        refine lv_iload X.1 X.2.1 dX9_differences_15 (lv_at hl 6 rfl) ?_
        refine cVI [.int v1, .int v6] [] X hw (c_X9_counts l G A M v1 v6 (by omega) (by omega)) (cwV 2 X.2.2.2.2 gX9_differences_X9_counts rfl rfl rfl (by decide +kernel) ⟨Nat.le_of_ble_eq_true rfl, Nat.le_of_ble_eq_true rfl⟩) (hw.recv (by decide) hm_MO rfl) rfl rfl hl.1 (Nat.le_of_ble_eq_true rfl) dX9_differences_17 ?_
        refine tni (fun r4 er4 => ?_)
        refine bz_eq (tgt := 99) X dX9_differences_20 (by decide) (fun c5 => ?_) (fun c5 => ?_)
        · skip
          have t6 : r4.toInt = 0 := i_eq c5
          refine lv_iinc (v := (v6 + 1)) (lv' := [(6, .int (v6 + 1)), (0, .ref (G.2.2 0)), (1, .int v1), (2, .int v2), (3, .int v3), (4, .int v4), (5, .int v5)]) X.1 X.2.1 dX9_differences_99 hl (k := 6) rfl rfl (by decide) rfl (fun ls hl => ?_)
          refine lv_goto (tgt := 6) X.1 X.2.1 dX9_differences_102 (by decide) ?_
          have q7 := inc_sp v6
          exact ih1 M v1 v2 v3 v4 v5 (v6 + 1) (by omega) (by omega) (by omega) (by omega) (by omega) (by omega) _ _ hw hS ls (lv_sub hl [1, 2, 3, 4, 5, 6, 0] rfl)
        · skip
          have t8 : ¬ r4.toInt = 0 := i_ne c5
          refine lv_aload_n X.1 X.2.1 dX9_differences_23 rfl (lv_at hl 0 rfl) ?_
          refine lv_iload_n X.1 X.2.1 dX9_differences_24 rfl (lv_at hl 2 rfl) ?_
          refine lv_iload X.1 X.2.1 dX9_differences_25 (lv_at hl 6 rfl) ?_
          refine cVI [.int v2, .int v6] [] X hw (c_X9_counts l G A M v2 v6 (by omega) (by omega)) (cwV 2 X.2.2.2.2 gX9_differences_X9_counts rfl rfl rfl (by decide +kernel) ⟨Nat.le_of_ble_eq_true rfl, Nat.le_of_ble_eq_true rfl⟩) (hw.recv (by decide) hm_MO rfl) rfl rfl hl.1 (Nat.le_of_ble_eq_true rfl) dX9_differences_27 ?_
          refine tni (fun r9 er9 => ?_)
          refine bz_eq (tgt := 99) X dX9_differences_30 (by decide) (fun c10 => ?_) (fun c10 => ?_)
          · skip
            have t11 : r9.toInt = 0 := i_eq c10
            refine lv_iinc (v := (v6 + 1)) (lv' := [(6, .int (v6 + 1)), (0, .ref (G.2.2 0)), (1, .int v1), (2, .int v2), (3, .int v3), (4, .int v4), (5, .int v5)]) X.1 X.2.1 dX9_differences_99 hl (k := 6) rfl rfl (by decide) rfl (fun ls hl => ?_)
            refine lv_goto (tgt := 6) X.1 X.2.1 dX9_differences_102 (by decide) ?_
            have q12 := inc_sp v6
            exact ih1 M v1 v2 v3 v4 v5 (v6 + 1) (by omega) (by omega) (by omega) (by omega) (by omega) (by omega) _ _ hw hS ls (lv_sub hl [1, 2, 3, 4, 5, 6, 0] rfl)
          · skip
            have t13 : ¬ r9.toInt = 0 := i_ne c10
            refine lv_aload_n X.1 X.2.1 dX9_differences_33 rfl (lv_at hl 0 rfl) ?_
            refine lv_iload_n X.1 X.2.1 dX9_differences_34 rfl (lv_at hl 2 rfl) ?_
            refine lv_iload X.1 X.2.1 dX9_differences_35 (lv_at hl 6 rfl) ?_
            refine lv_iload_n X.1 X.2.1 dX9_differences_37 rfl (lv_at hl 3 rfl) ?_
            refine lv_iload X.1 X.2.1 dX9_differences_38 (lv_at hl 4 rfl) ?_
            refine cVW [.int v2, .int v6, .int v3, .int v4] [] X hw hS (c_X9_reckon l G A M v2 v6 v3 v4 (by omega) (by omega) (by omega)) (cwV 4 X.2.2.2.2 gX9_differences_X9_reckon rfl rfl rfl (by decide +kernel) ⟨Nat.le_of_ble_eq_true rfl, Nat.le_of_ble_eq_true rfl⟩) (hw.recv (by decide) hm_MO rfl) rfl rfl hl.1 (Nat.le_of_ble_eq_true rfl) dX9_differences_40 (fun H locs hw hS => ?_)
            refine tpb (fun M14 eM14 => ?_)
            rw [← eM14] at hw
            refine lv_aload_n X.1 X.2.1 dX9_differences_43 rfl (lv_at hl 0 rfl) ?_
            refine gF X hw (by decide) hm_MO rfl (by decide +kernel) 6 (by decide) (ref := "RankBenchModel") rfl (by decide +kernel) rfl dX9_differences_44 ?_
            refine tnl (fun w15 ew15 => ?_)
            refine lv_lstore (lv' := [(7, .long w15), (0, .ref (G.2.2 0)), (1, .int v1), (2, .int v2), (3, .int v3), (4, .int v4), (5, .int v5), (6, .int v6)]) X.1 X.2.1 dX9_differences_47 hl (by decide) rfl (fun ls hl => ?_)
            refine lv_aload_n X.1 X.2.1 dX9_differences_49 rfl (lv_at hl 1 rfl) ?_
            refine gF X hw (by decide) hm_MO rfl (by decide +kernel) 7 (by decide) (ref := "RankBenchModel") rfl (by decide +kernel) rfl dX9_differences_50 ?_
            refine tnl (fun w16 ew16 => ?_)
            have nz53 : ¬ w16 = 0 := ne_of ew16 (okM_nz hw.2.2.2.2)
            refine lv_lstore (lv' := [(9, .long w16), (7, .long w15), (0, .ref (G.2.2 0)), (1, .int v1), (2, .int v2), (3, .int v3), (4, .int v4), (5, .int v5), (6, .int v6)]) X.1 X.2.1 dX9_differences_53 hl (by decide) rfl (fun ls hl => ?_)
            refine lv_aload_n X.1 X.2.1 dX9_differences_55 rfl (lv_at hl 2 rfl) ?_
            refine lv_iload_n X.1 X.2.1 dX9_differences_56 rfl (lv_at hl 3 rfl) ?_
            refine lv_iload X.1 X.2.1 dX9_differences_57 (lv_at hl 8 rfl) ?_
            refine lv_iload_n X.1 X.2.1 dX9_differences_59 rfl (lv_at hl 5 rfl) ?_
            refine lv_iload X.1 X.2.1 dX9_differences_60 (lv_at hl 6 rfl) ?_
            refine cVW [.int v1, .int v6, .int v3, .int v4] [] X hw hS (c_X9_reckon l G A M14 v1 v6 v3 v4 (by omega) (by omega) (by omega)) (cwV 4 X.2.2.2.2 gX9_differences_X9_reckon rfl rfl rfl (by decide +kernel) ⟨Nat.le_of_ble_eq_true rfl, Nat.le_of_ble_eq_true rfl⟩) (hw.recv (by decide) hm_MO rfl) rfl rfl hl.1 (Nat.le_of_ble_eq_true rfl) dX9_differences_62 (fun H locs hw hS => ?_)
            refine tpb (fun M17 eM17 => ?_)
            rw [← eM17] at hw
            refine lv_aload_n X.1 X.2.1 dX9_differences_65 rfl (lv_at hl 2 rfl) ?_
            refine lv_lload X.1 X.2.1 dX9_differences_66 (lv_at hl 1 rfl) ?_
            refine lv_lneg X.1 X.2.1 dX9_differences_68 ?_
            refine lv_lload X.1 X.2.1 dX9_differences_69 (lv_at hl 0 rfl) ?_
            refine cVW [.long (-w15), .long w16] [] X hw hS (c_X9_plus l G A M17 (-w15) w16 nz53) (cwV 2 X.2.2.2.2 gX9_differences_X9_plus rfl rfl rfl (by decide +kernel) ⟨Nat.le_of_ble_eq_true rfl, Nat.le_of_ble_eq_true rfl⟩) (hw.recv (by decide) hm_MO rfl) rfl rfl hl.1 (Nat.le_of_ble_eq_true rfl) dX9_differences_71 (fun H locs hw hS => ?_)
            refine tpb (fun M18 eM18 => ?_)
            rw [← eM18] at hw
            refine lv_aload_n X.1 X.2.1 dX9_differences_74 rfl (lv_at hl 2 rfl) ?_
            refine gF X hw (by decide) hm_MO rfl (by decide +kernel) 8 (by decide) (ref := "RankBenchModel") rfl (by decide +kernel) rfl dX9_differences_75 ?_
            refine lv_iload X.1 X.2.1 dX9_differences_78 (lv_at hl 7 rfl) ?_
            refine lv_aload_n X.1 X.2.1 dX9_differences_80 rfl (lv_at hl 2 rfl) ?_
            refine gF X hw (by decide) hm_MO rfl (by decide +kernel) 6 (by decide) (ref := "RankBenchModel") rfl (by decide +kernel) rfl dX9_differences_81 ?_
            refine tnl (fun w19 ew19 => ?_)
            refine sL X hw hS (ul M18 5 v5.toNatClampNeg w19) (by decide) hm_mp (vp_in_iff.mpr ⟨by omega, by omega⟩) (by rw [hm_mp, ul_same]) (fun j hj => rfl) (fun j hj => ul_ne hj) (okM_ul hw.2.2.2.2 (Or.inl (by omega))) dX9_differences_84 (fun H locs hw hS => ?_)
            refine tpb (fun M20 eM20 => ?_)
            rw [← eM20] at hw
            refine lv_aload_n X.1 X.2.1 dX9_differences_85 rfl (lv_at hl 2 rfl) ?_
            refine gF X hw (by decide) hm_MO rfl (by decide +kernel) 9 (by decide) (ref := "RankBenchModel") rfl (by decide +kernel) rfl dX9_differences_86 ?_
            refine lv_iload X.1 X.2.1 dX9_differences_89 (lv_at hl 7 rfl) ?_
            refine lv_aload_n X.1 X.2.1 dX9_differences_91 rfl (lv_at hl 2 rfl) ?_
            refine gF X hw (by decide) hm_MO rfl (by decide +kernel) 7 (by decide) (ref := "RankBenchModel") rfl (by decide +kernel) rfl dX9_differences_92 ?_
            refine tnl (fun w21 ew21 => ?_)
            refine sL X hw hS (ul M20 6 v5.toNatClampNeg w21) (by decide) hm_mb (vp_in_iff.mpr ⟨by omega, by omega⟩) (by rw [hm_mb, ul_same]) (fun j hj => rfl) (fun j hj => ul_ne hj) (okM_ul hw.2.2.2.2 (Or.inl (by omega))) dX9_differences_95 (fun H locs hw hS => ?_)
            refine tpb (fun M22 eM22 => ?_)
            rw [← eM22] at hw
            refine lv_iinc (v := (v5 + 1)) (lv' := [(5, .int (v5 + 1)), (9, .long w16), (7, .long w15), (0, .ref (G.2.2 0)), (1, .int v1), (2, .int v2), (3, .int v3), (4, .int v4), (6, .int v6)]) X.1 X.2.1 dX9_differences_96 hl (k := 7) rfl rfl (by decide) rfl (fun ls hl => ?_)
            refine lv_iinc (v := (v6 + 1)) (lv' := [(6, .int (v6 + 1)), (5, .int (v5 + 1)), (9, .long w16), (7, .long w15), (0, .ref (G.2.2 0)), (1, .int v1), (2, .int v2), (3, .int v3), (4, .int v4)]) X.1 X.2.1 dX9_differences_99 hl (k := 8) rfl rfl (by decide) rfl (fun ls hl => ?_)
            refine lv_goto (tgt := 6) X.1 X.2.1 dX9_differences_102 (by decide) ?_
            have q23 := inc_sp v5
            have q24 := inc_sp v6
            exact ih1 M22 v1 v2 v3 v4 (v5 + 1) (v6 + 1) (by omega) (by omega) (by omega) (by omega) (by omega) (by omega) _ _ hw hS ls (lv_sub hl [4, 5, 6, 7, 8, 1, 0] rfl)
  exact L1 9 M a1 a2 a3 a4 0 0 (by decide) (by first | omega | decide) (by first | omega | decide) (by first | omega | decide) (by first | omega | decide) (by first | omega | decide) _ _ hw hS ls (lv_sub hl [2, 3, 4, 5, 6, 1, 0] rfl)

def f_X9_refused (a1 : Int32) (a2 : Int32) (a3 : Int32) (a4 : Int32) : Int32 := bnd (f_X9_isRanker a1) (fun r1 => if r1 = 0 then (-1) else (bnd (f_X9_isRanker a2) (fun r5 => if r5 = 0 then (-1) else (bnd (f_X9_isMean a3 a4) (fun r8 => if r8 = 0 then (-2) else 0)))))
set_option maxRecDepth 100000 in
set_option maxHeartbeats 4000000 in
theorem c_X9_refused (l : Launch) (G : En) (A : Nat → Prop) (M : Mem) (a1 : Int32) (a2 : Int32) (a3 : Int32) (a4 : Int32) : RdI false l yX9_refused wsX9_refused ({ frames := 2, cells := 0, slots := 0, locals := 42 }) G A M [.ref (G.2.2 0), .int a1, .int a2, .int a3, .int a4] (f_X9_refused a1 a2 a3 a4) := by
  refine RdI.of (cc := cX9_refused) (maxL := 5) (ret := (some .int)) (own := RX9) (by decide) rfl rfl (Nat.le_of_ble_eq_true rfl) ?_
  intro p e s m below meth c X hw hr hlk ls hl
  have hl : lv_has ls 5 [(0, .ref (G.2.2 0)), (1, .int a1), (2, .int a2), (3, .int a3), (4, .int a4)] := hl
  unfold f_X9_refused
  refine lv_iload_n X.1 X.2.1 dX9_refused_0 rfl (lv_at hl 1 rfl) ?_
  refine cSI [.int a1] [] X hw (c_X9_isRanker l G A M a1) (va_cwS 1 X.2.2.2.2 gX9_refused_X9_isRanker rfl rfl rfl (by decide +kernel) ⟨Nat.le_of_ble_eq_true rfl, Nat.le_of_ble_eq_true rfl⟩)  rfl rfl hl.1 (Nat.le_of_ble_eq_true rfl) dX9_refused_1 ?_
  refine tni (fun r1 er1 => ?_)
  have zr1 := rk_or er1
  refine bz_eq (tgt := 14) X dX9_refused_4 (by decide) (fun c2 => ?_) (fun c2 => ?_)
  · skip
    have t3 : r1.toInt = 0 := i_eq c2
    refine lv_iconst (v := (-1)) X.1 X.2.1 dX9_refused_14 (by decide) ?_
    exact rI X hr hlk dX9_refused_15
  · skip
    have t4 : ¬ r1.toInt = 0 := i_ne c2
    refine lv_iload_n X.1 X.2.1 dX9_refused_7 rfl (lv_at hl 2 rfl) ?_
    refine cSI [.int a2] [] X hw (c_X9_isRanker l G A M a2) (va_cwS 1 X.2.2.2.2 gX9_refused_X9_isRanker rfl rfl rfl (by decide +kernel) ⟨Nat.le_of_ble_eq_true rfl, Nat.le_of_ble_eq_true rfl⟩)  rfl rfl hl.1 (Nat.le_of_ble_eq_true rfl) dX9_refused_8 ?_
    refine tni (fun r5 er5 => ?_)
    have zr5 := rk_or er5
    refine bz_ne (tgt := 16) X dX9_refused_11 (by decide) (fun c6 => ?_) (fun c6 => ?_)
    · skip
      have t7 : ¬ r5.toInt = 0 := i_ne c6
      refine lv_aload_n X.1 X.2.1 dX9_refused_16 rfl (lv_at hl 0 rfl) ?_
      refine lv_iload_n X.1 X.2.1 dX9_refused_17 rfl (lv_at hl 3 rfl) ?_
      refine lv_iload X.1 X.2.1 dX9_refused_18 (lv_at hl 4 rfl) ?_
      refine cVI [.int a3, .int a4] [] X hw (c_X9_isMean l G A M a3 a4) (cwV 2 X.2.2.2.2 gX9_refused_X9_isMean rfl rfl rfl (by decide +kernel) ⟨Nat.le_of_ble_eq_true rfl, Nat.le_of_ble_eq_true rfl⟩) (hw.recv (by decide) hm_MO rfl) rfl rfl hl.1 (Nat.le_of_ble_eq_true rfl) dX9_refused_20 ?_
      refine tni (fun r8 er8 => ?_)
      have zr8 := mean_or er8
      refine bz_eq (tgt := 30) X dX9_refused_23 (by decide) (fun c9 => ?_) (fun c9 => ?_)
      · skip
        have t10 : r8.toInt = 0 := i_eq c9
        refine lv_bipush (v := (-2)) X.1 X.2.1 dX9_refused_30 (by decide) ?_
        exact rI X hr hlk dX9_refused_32
      · skip
        have t11 : ¬ r8.toInt = 0 := i_ne c9
        refine lv_iconst (v := 0) X.1 X.2.1 dX9_refused_26 (by decide) ?_
        refine lv_goto (tgt := 32) X.1 X.2.1 dX9_refused_27 (by decide) ?_
        exact rI X hr hlk dX9_refused_32
    · skip
      have t12 : r5.toInt = 0 := i_eq c6
      refine lv_iconst (v := (-1)) X.1 X.2.1 dX9_refused_14 (by decide) ?_
      exact rI X hr hlk dX9_refused_15
theorem ref_or {r a1 a2 a3 a4 : Int32} (e : r = f_X9_refused a1 a2 a3 a4) : r.toInt < 0 ∨ ((0 ≤ a1.toInt ∧ a1.toInt < 4) ∧ (0 ≤ a2.toInt ∧ a2.toInt < 4) ∧ 1 ≤ a4.toInt ∧ a4.toInt ≤ 16) := by
  subst e
  unfold f_X9_refused
  dsimp only [bnd]
  split
  · exact Or.inl (by decide)
  · split
    · exact Or.inl (by decide)
    · split
      · exact Or.inl (by decide)
      · rename_i h1 h2 h3
        refine Or.inr ⟨?_, ?_, ?_⟩
        · rcases rk_or (a := a1) rfl with h | h
          · exact absurd (Int32.toInt_inj.mp h) h1
          · exact h
        · rcases rk_or (a := a2) rfl with h | h
          · exact absurd (Int32.toInt_inj.mp h) h2
          · exact h
        · rcases mean_or (a := a3) (b := a4) rfl with h | h
          · exact absurd (Int32.toInt_inj.mp h) h3
          · exact h
