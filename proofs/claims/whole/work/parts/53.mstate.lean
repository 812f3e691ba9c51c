/-! 53.mstate -/
def f_X9_rank (M : Mem) (a1 : Int32) (a2 : Int32) (a3 : Int32) : Int32 × Mem := bnd (f_X9_isRanker a1) (fun r1 => if r1 = 0 then ((-1), M) else (bnd (f_X9_isQuestion a2) (fun r5 => if r5 = 0 then ((-1), M) else (if a3 < 0 then ((-1), M) else (if a3 ≤ 23 then (bnd ((8 * a1) + a2) (fun x14 => if (M.1 4 x14.toNatClampNeg) = 0 then (if (M.1 4 x14.toNatClampNeg) = 0 then (if (M.1 4 x14.toNatClampNeg) = 0 then (bnd (ui M 3 x14.toNatClampNeg 0) (fun M21 => bnd (ui M21 4 x14.toNatClampNeg (vp_nar .boolean 1)) (fun M22 => bnd (ui M22 2 ((16 * x14) + (M22.1 3 x14.toNatClampNeg)).toNatClampNeg a3) (fun M23 => bnd ((M23.1 3 x14.toNatClampNeg) + 1) (fun x24 => bnd (ui M23 3 x14.toNatClampNeg x24) (fun M25 => ((M25.1 3 x14.toNatClampNeg), M25))))))) else (bnd (M.1 3 x14.toNatClampNeg) (fun x27 => bnd (ui M 3 x14.toNatClampNeg x27) (fun M28 => bnd (ui M28 4 x14.toNatClampNeg (vp_nar .boolean 1)) (fun M29 => bnd (ui M29 2 ((16 * x14) + (M29.1 3 x14.toNatClampNeg)).toNatClampNeg a3) (fun M30 => bnd ((M30.1 3 x14.toNatClampNeg) + 1) (fun x31 => bnd (ui M30 3 x14.toNatClampNeg x31) (fun M32 => ((M32.1 3 x14.toNatClampNeg), M32))))))))) else (if (M.1 3 x14.toNatClampNeg) = 16 then ((-4), M) else (if (M.1 4 x14.toNatClampNeg) = 0 then (bnd (ui M 3 x14.toNatClampNeg 0) (fun M38 => bnd (ui M38 4 x14.toNatClampNeg (vp_nar .boolean 1)) (fun M39 => bnd (ui M39 2 ((16 * x14) + (M39.1 3 x14.toNatClampNeg)).toNatClampNeg a3) (fun M40 => bnd ((M40.1 3 x14.toNatClampNeg) + 1) (fun x41 => bnd (ui M40 3 x14.toNatClampNeg x41) (fun M42 => ((M42.1 3 x14.toNatClampNeg), M42))))))) else (bnd (M.1 3 x14.toNatClampNeg) (fun x44 => bnd (ui M 3 x14.toNatClampNeg x44) (fun M45 => bnd (ui M45 4 x14.toNatClampNeg (vp_nar .boolean 1)) (fun M46 => bnd (ui M46 2 ((16 * x14) + (M46.1 3 x14.toNatClampNeg)).toNatClampNeg a3) (fun M47 => bnd ((M47.1 3 x14.toNatClampNeg) + 1) (fun x48 => bnd (ui M47 3 x14.toNatClampNeg x48) (fun M49 => ((M49.1 3 x14.toNatClampNeg), M49))))))))))) else (bnd (f_X9_find M a1 a2 a3) (fun r52 => if (M.1 3 x14.toNatClampNeg) ≤ r52 then (if (M.1 4 x14.toNatClampNeg) = 0 then (if (M.1 4 x14.toNatClampNeg) = 0 then (bnd (ui M 3 x14.toNatClampNeg 0) (fun M59 => bnd (ui M59 4 x14.toNatClampNeg (vp_nar .boolean 1)) (fun M60 => bnd (ui M60 2 ((16 * x14) + (M60.1 3 x14.toNatClampNeg)).toNatClampNeg a3) (fun M61 => bnd ((M61.1 3 x14.toNatClampNeg) + 1) (fun x62 => bnd (ui M61 3 x14.toNatClampNeg x62) (fun M63 => ((M63.1 3 x14.toNatClampNeg), M63))))))) else (bnd (M.1 3 x14.toNatClampNeg) (fun x65 => bnd (ui M 3 x14.toNatClampNeg x65) (fun M66 => bnd (ui M66 4 x14.toNatClampNeg (vp_nar .boolean 1)) (fun M67 => bnd (ui M67 2 ((16 * x14) + (M67.1 3 x14.toNatClampNeg)).toNatClampNeg a3) (fun M68 => bnd ((M68.1 3 x14.toNatClampNeg) + 1) (fun x69 => bnd (ui M68 3 x14.toNatClampNeg x69) (fun M70 => ((M70.1 3 x14.toNatClampNeg), M70))))))))) else (if (M.1 3 x14.toNatClampNeg) = 16 then ((-4), M) else (if (M.1 4 x14.toNatClampNeg) = 0 then (bnd (ui M 3 x14.toNatClampNeg 0) (fun M76 => bnd (ui M76 4 x14.toNatClampNeg (vp_nar .boolean 1)) (fun M77 => bnd (ui M77 2 ((16 * x14) + (M77.1 3 x14.toNatClampNeg)).toNatClampNeg a3) (fun M78 => bnd ((M78.1 3 x14.toNatClampNeg) + 1) (fun x79 => bnd (ui M78 3 x14.toNatClampNeg x79) (fun M80 => ((M80.1 3 x14.toNatClampNeg), M80))))))) else (bnd (M.1 3 x14.toNatClampNeg) (fun x82 => bnd (ui M 3 x14.toNatClampNeg x82) (fun M83 => bnd (ui M83 4 x14.toNatClampNeg (vp_nar .boolean 1)) (fun M84 => bnd (ui M84 2 ((16 * x14) + (M84.1 3 x14.toNatClampNeg)).toNatClampNeg a3) (fun M85 => bnd ((M85.1 3 x14.toNatClampNeg) + 1) (fun x86 => bnd (ui M85 3 x14.toNatClampNeg x86) (fun M87 => ((M87.1 3 x14.toNatClampNeg), M87))))))))))) else ((-3), M))))) else ((-1), M))))))
set_option maxRecDepth 100000 in
set_option maxHeartbeats 4000000 in
theorem c_X9_rank (l : Launch) (G : En) (A : Nat → Prop) (M : Mem) (a1 : Int32) (a2 : Int32) (a3 : Int32) : WrI false l yX9_rank wsX9_rank ({ frames := 2, cells := 0, slots := 0, locals := 47 }) G A M [.ref (G.2.2 0), .int a1, .int a2, .int a3] (f_X9_rank M a1 a2 a3) := by
  refine WrI.of (cc := cX9_rank) (maxL := 5) (ret := (some .int)) (own := RX9) (by decide) rfl rfl (Nat.le_of_ble_eq_true rfl) ?_
  intro p e s m below meth c X hw hr hlk ls hl hS
  have hl : lv_has ls 5 [(0, .ref (G.2.2 0)), (1, .int a1), (2, .int a2), (3, .int a3)] := hl
  unfold f_X9_rank
  refine lv_iload_n X.1 X.2.1 dX9_rank_0 rfl (lv_at hl 1 rfl) ?_
  refine cSI [.int a1] [] X hw (c_X9_isRanker l G A M a1) (va_cwS 1 X.2.2.2.2 gX9_rank_X9_isRanker rfl rfl rfl (by decide +kernel) ⟨Nat.le_of_ble_eq_true rfl, Nat.le_of_ble_eq_true rfl⟩)  rfl rfl hl.1 (Nat.le_of_ble_eq_true rfl) dX9_rank_1 ?_
  refine tni (fun r1 er1 => ?_)
  have zr1 := rk_or er1
  refine bz_eq (tgt := 24) X dX9_rank_4 (by decide) (fun c2 => ?_) (fun c2 => ?_)
  · skip
    have t3 : r1.toInt = 0 := i_eq c2
    refine lv_iconst (v := (-1)) X.1 X.2.1 dX9_rank_24 (by decide) ?_
    exact rQ X hr hlk hw hS dX9_rank_25
  · skip
    have t4 : ¬ r1.toInt = 0 := i_ne c2
    refine lv_iload_n X.1 X.2.1 dX9_rank_7 rfl (lv_at hl 2 rfl) ?_
    refine cSI [.int a2] [] X hw (c_X9_isQuestion l G A M a2) (va_cwS 1 X.2.2.2.2 gX9_rank_X9_isQuestion rfl rfl rfl (by decide +kernel) ⟨Nat.le_of_ble_eq_true rfl, Nat.le_of_ble_eq_true rfl⟩)  rfl rfl hl.1 (Nat.le_of_ble_eq_true rfl) dX9_rank_8 ?_
    refine tni (fun r5 er5 => ?_)
    have zr5 := q_or er5
    refine bz_eq (tgt := 24) X dX9_rank_11 (by decide) (fun c6 => ?_) (fun c6 => ?_)
    · skip
      have t7 : r5.toInt = 0 := i_eq c6
      refine lv_iconst (v := (-1)) X.1 X.2.1 dX9_rank_24 (by decide) ?_
      exact rQ X hr hlk hw hS dX9_rank_25
    · skip
      have t8 : ¬ r5.toInt = 0 := i_ne c6
      refine lv_iload_n X.1 X.2.1 dX9_rank_14 rfl (lv_at hl 3 rfl) ?_
      refine bz_lt (tgt := 24) X dX9_rank_15 (by decide) (fun c9 => ?_) (fun c9 => ?_)
      · skip
        have t10 : a3.toInt < 0 := i_lt c9
        refine lv_iconst (v := (-1)) X.1 X.2.1 dX9_rank_24 (by decide) ?_
        exact rQ X hr hlk hw hS dX9_rank_25
      · skip
        have t11 : 0 ≤ a3.toInt := i_nlt c9
        refine lv_iload_n X.1 X.2.1 dX9_rank_18 rfl (lv_at hl 3 rfl) ?_
        refine lv_bipush (v := 23) X.1 X.2.1 dX9_rank_19 (by decide) ?_
        refine bi_le (tgt := 26) X dX9_rank_21 (by decide) (fun c12 => ?_) (fun c12 => ?_)
        · skip
          have t13 : a3.toInt ≤ 23 := i_le c12
          refine lv_bipush (v := 8) X.1 X.2.1 dX9_rank_26 (by decide) ?_
          refine lv_iload_n X.1 X.2.1 dX9_rank_28 rfl (lv_at hl 1 rfl) ?_
          refine lv_imul X.1 X.2.1 dX9_rank_29 ?_
          refine lv_iload_n X.1 X.2.1 dX9_rank_30 rfl (lv_at hl 2 rfl) ?_
          refine lv_iadd X.1 X.2.1 dX9_rank_31 ?_
          refine tni (fun x14 ex14 => ?_)
          have ix9 := ix8 (r := a1) (q := a2) (by omega) (by omega)
          rw [← ex14] at ix9
          refine lv_istore (lv' := [(4, .int x14), (0, .ref (G.2.2 0)), (1, .int a1), (2, .int a2), (3, .int a3)]) X.1 X.2.1 dX9_rank_32 hl (by decide) rfl (fun ls hl => ?_)
          refine lv_aload_n X.1 X.2.1 dX9_rank_34 rfl (lv_at hl 1 rfl) ?_
          refine gF X hw (by decide) hm_MO rfl (by decide +kernel) 3 (by decide) (ref := "RankBenchModel") rfl (by decide +kernel) rfl dX9_rank_35 ?_
          refine lv_iload X.1 X.2.1 dX9_rank_38 (lv_at hl 0 rfl) ?_
          refine aZ X hw (by decide) hm_mt (vp_in_iff.mpr ⟨by omega, by omega⟩) dX9_rank_40 ?_
          refine bz_eq (tgt := 64) X dX9_rank_41 (by decide) (fun c15 => ?_) (fun c15 => ?_)
          · skip
            have t16 : (M.1 4 x14.toNatClampNeg).toInt = 0 := i_eq c15
            refine lv_aload_n X.1 X.2.1 dX9_rank_64 rfl (lv_at hl 1 rfl) ?_
            refine gF X hw (by decide) hm_MO rfl (by decide +kernel) 3 (by decide) (ref := "RankBenchModel") rfl (by decide +kernel) rfl dX9_rank_65 ?_
            refine lv_iload X.1 X.2.1 dX9_rank_68 (lv_at hl 0 rfl) ?_
            refine aZ X hw (by decide) hm_mt (vp_in_iff.mpr ⟨by omega, by omega⟩) dX9_rank_70 ?_
            refine bz_eq (tgt := 89) X dX9_rank_71 (by decide) (fun c17 => ?_) (fun c17 => ?_)
            · skip
              have t18 : (M.1 4 x14.toNatClampNeg).toInt = 0 := i_eq c17
              refine lv_aload_n X.1 X.2.1 dX9_rank_89 rfl (lv_at hl 1 rfl) ?_
              refine gF X hw (by decide) hm_MO rfl (by decide +kernel) 2 (by decide) (ref := "RankBenchModel") rfl (by decide +kernel) rfl dX9_rank_90 ?_
              refine lv_iload X.1 X.2.1 dX9_rank_93 (lv_at hl 0 rfl) ?_
              refine lv_aload_n X.1 X.2.1 dX9_rank_95 rfl (lv_at hl 1 rfl) ?_
              refine gF X hw (by decide) hm_MO rfl (by decide +kernel) 3 (by decide) (ref := "RankBenchModel") rfl (by decide +kernel) rfl dX9_rank_96 ?_
              refine lv_iload X.1 X.2.1 dX9_rank_99 (lv_at hl 0 rfl) ?_
              refine aZ X hw (by decide) hm_mt (vp_in_iff.mpr ⟨by omega, by omega⟩) dX9_rank_101 ?_
              refine bz_eq (tgt := 115) X dX9_rank_102 (by decide) (fun c19 => ?_) (fun c19 => ?_)
              · skip
                have t20 : (M.1 4 x14.toNatClampNeg).toInt = 0 := i_eq c19
                refine lv_iconst (v := 0) X.1 X.2.1 dX9_rank_115 (by decide) ?_
                refine sI X hw hS (ui M 3 x14.toNatClampNeg 0) (by decide) hm_ms (vp_in_iff.mpr ⟨by omega, by omega⟩) (by rw [hm_ms, ui_same]) (fun j hj => ui_ne hj) (fun j hj => rfl) (okM_ui hw.2.2.2.2 (Or.inr (Or.inl ⟨rfl, by first | decide | omega, by first | decide | omega⟩))) dX9_rank_116 (fun H locs hw hS => ?_)
                refine tpb (fun M21 eM21 => ?_)
                rw [← eM21] at hw
                have h117 : 0 ≤ (M21.1 3 x14.toNatClampNeg).toInt ∧ (M21.1 3 x14.toNatClampNeg).toInt < 16 := by rw [eM21, ui_same, pk_us]; first | decide | omega
                refine lv_aload_n X.1 X.2.1 dX9_rank_117 rfl (lv_at hl 1 rfl) ?_
                refine gF X hw (by decide) hm_MO rfl (by decide +kernel) 3 (by decide) (ref := "RankBenchModel") rfl (by decide +kernel) rfl dX9_rank_118 ?_
                refine lv_iload X.1 X.2.1 dX9_rank_121 (lv_at hl 0 rfl) ?_
                refine lv_iconst (v := 1) X.1 X.2.1 dX9_rank_123 (by decide) ?_
                refine sZ X hw hS (ui M21 4 x14.toNatClampNeg (vp_nar .boolean 1)) (by decide) hm_mt (vp_in_iff.mpr ⟨by omega, by omega⟩) (by rw [hm_mt, ui_same]) (fun j hj => ui_ne hj) (fun j hj => rfl) (okM_ui hw.2.2.2.2 (Or.inl (by decide))) dX9_rank_124 (fun H locs hw hS => ?_)
                refine tpb (fun M22 eM22 => ?_)
                rw [← eM22] at hw
                have h125 : 0 ≤ (M22.1 3 x14.toNatClampNeg).toInt ∧ (M22.1 3 x14.toNatClampNeg).toInt < 16 := by rw [eM22, ui_ne (by decide)]; exact h117
                refine lv_aload_n X.1 X.2.1 dX9_rank_125 rfl (lv_at hl 1 rfl) ?_
                refine gF X hw (by decide) hm_MO rfl (by decide +kernel) 1 (by decide) (ref := "RankBenchModel") rfl (by decide +kernel) rfl dX9_rank_126 ?_
                refine lv_bipush (v := 16) X.1 X.2.1 dX9_rank_129 (by decide) ?_
                refine lv_iload X.1 X.2.1 dX9_rank_131 (lv_at hl 0 rfl) ?_
                refine lv_imul X.1 X.2.1 dX9_rank_133 ?_
                refine lv_aload_n X.1 X.2.1 dX9_rank_134 rfl (lv_at hl 1 rfl) ?_
                refine gF X hw (by decide) hm_MO rfl (by decide +kernel) 2 (by decide) (ref := "RankBenchModel") rfl (by decide +kernel) rfl dX9_rank_135 ?_
                refine lv_iload X.1 X.2.1 dX9_rank_138 (lv_at hl 0 rfl) ?_
                refine aI X hw (by decide) hm_ms (vp_in_iff.mpr ⟨by omega, by omega⟩) dX9_rank_140 ?_
                refine lv_iadd X.1 X.2.1 dX9_rank_141 ?_
                refine lv_iload_n X.1 X.2.1 dX9_rank_142 rfl (lv_at hl 4 rfl) ?_
                have ix143 := ix16 (k := x14) (i := M22.1 3 x14.toNatClampNeg) (by omega) h125
                refine sI X hw hS (ui M22 2 ((16 * x14) + (M22.1 3 x14.toNatClampNeg)).toNatClampNeg a3) (by decide) hm_mr (vp_in_iff.mpr ⟨by omega, by omega⟩) (by rw [hm_mr, ui_same]) (fun j hj => ui_ne hj) (fun j hj => rfl) (okM_ui hw.2.2.2.2 (Or.inr (Or.inr (Or.inl ⟨Or.inl rfl, by omega, by omega⟩)))) dX9_rank_143 (fun H locs hw hS => ?_)
                refine tpb (fun M23 eM23 => ?_)
                rw [← eM23] at hw
                have h144 : 0 ≤ (M23.1 3 x14.toNatClampNeg).toInt ∧ (M23.1 3 x14.toNatClampNeg).toInt < 16 := by rw [eM23, ui_ne (by decide)]; exact h125
                refine lv_aload_n X.1 X.2.1 dX9_rank_144 rfl (lv_at hl 1 rfl) ?_
                refine gF X hw (by decide) hm_MO rfl (by decide +kernel) 2 (by decide) (ref := "RankBenchModel") rfl (by decide +kernel) rfl dX9_rank_145 ?_
                refine lv_iload X.1 X.2.1 dX9_rank_148 (lv_at hl 0 rfl) ?_
                refine lv_dup2_11 X.1 X.2.1 dX9_rank_150 rfl rfl ?_
                refine aI X hw (by decide) hm_ms (vp_in_iff.mpr ⟨by omega, by omega⟩) dX9_rank_151 ?_
                refine lv_iconst (v := 1) X.1 X.2.1 dX9_rank_152 (by decide) ?_
                refine lv_iadd X.1 X.2.1 dX9_rank_153 ?_
                refine tni (fun x24 ex24 => ?_)
                have q154 := inc_sp (M23.1 3 x14.toNatClampNeg)
                rw [← ex24] at q154
                refine sI X hw hS (ui M23 3 x14.toNatClampNeg x24) (by decide) hm_ms (vp_in_iff.mpr ⟨by omega, by omega⟩) (by rw [hm_ms, ui_same]) (fun j hj => ui_ne hj) (fun j hj => rfl) (okM_ui hw.2.2.2.2 (Or.inr (Or.inl ⟨rfl, by first | decide | omega, by first | decide | omega⟩))) dX9_rank_154 (fun H locs hw hS => ?_)
                refine tpb (fun M25 eM25 => ?_)
                rw [← eM25] at hw
                refine lv_aload_n X.1 X.2.1 dX9_rank_155 rfl (lv_at hl 1 rfl) ?_
                refine gF X hw (by decide) hm_MO rfl (by decide +kernel) 2 (by decide) (ref := "RankBenchModel") rfl (by decide +kernel) rfl dX9_rank_156 ?_
                refine lv_iload X.1 X.2.1 dX9_rank_159 (lv_at hl 0 rfl) ?_
                refine aI X hw (by decide) hm_ms (vp_in_iff.mpr ⟨by omega, by omega⟩) dX9_rank_161 ?_
                exact rQ X hr hlk hw hS dX9_rank_162
              · skip
                have t26 : ¬ (M.1 4 x14.toNatClampNeg).toInt = 0 := i_ne c19
                refine lv_aload_n X.1 X.2.1 dX9_rank_105 rfl (lv_at hl 1 rfl) ?_
                refine gF X hw (by decide) hm_MO rfl (by decide +kernel) 2 (by decide) (ref := "RankBenchModel") rfl (by decide +kernel) rfl dX9_rank_106 ?_
                refine lv_iload X.1 X.2.1 dX9_rank_109 (lv_at hl 0 rfl) ?_
                refine aI X hw (by decide) hm_ms (vp_in_iff.mpr ⟨by omega, by omega⟩) dX9_rank_111 ?_
                refine lv_goto (tgt := 116) X.1 X.2.1 dX9_rank_112 (by decide) ?_
                refine tni (fun x27 ex27 => ?_)
                have zs := hw.2.2.2.2.1 x14.toNatClampNeg (clampN (by omega) (by omega))
                have zs2 := congrArg Int32.toInt ex27
                refine sI X hw hS (ui M 3 x14.toNatClampNeg x27) (by decide) hm_ms (vp_in_iff.mpr ⟨by omega, by omega⟩) (by rw [hm_ms, ui_same]) (fun j hj => ui_ne hj) (fun j hj => rfl) (okM_ui hw.2.2.2.2 (Or.inr (Or.inl ⟨rfl, by first | decide | omega, by first | decide | omega⟩))) dX9_rank_116 (fun H locs hw hS => ?_)
                refine tpb (fun M28 eM28 => ?_)
                rw [← eM28] at hw
                have h117 : 0 ≤ (M28.1 3 x14.toNatClampNeg).toInt ∧ (M28.1 3 x14.toNatClampNeg).toInt < 16 := by rw [eM28, ui_same, pk_us]; first | decide | omega
                refine lv_aload_n X.1 X.2.1 dX9_rank_117 rfl (lv_at hl 1 rfl) ?_
                refine gF X hw (by decide) hm_MO rfl (by decide +kernel) 3 (by decide) (ref := "RankBenchModel") rfl (by decide +kernel) rfl dX9_rank_118 ?_
                refine lv_iload X.1 X.2.1 dX9_rank_121 (lv_at hl 0 rfl) ?_
                refine lv_iconst (v := 1) X.1 X.2.1 dX9_rank_123 (by decide) ?_
                refine sZ X hw hS (ui M28 4 x14.toNatClampNeg (vp_nar .boolean 1)) (by decide) hm_mt (vp_in_iff.mpr ⟨by omega, by omega⟩) (by rw [hm_mt, ui_same]) (fun j hj => ui_ne hj) (fun j hj => rfl) (okM_ui hw.2.2.2.2 (Or.inl (by decide))) dX9_rank_124 (fun H locs hw hS => ?_)
                refine tpb (fun M29 eM29 => ?_)
                rw [← eM29] at hw
                have h125 : 0 ≤ (M29.1 3 x14.toNatClampNeg).toInt ∧ (M29.1 3 x14.toNatClampNeg).toInt < 16 := by rw [eM29, ui_ne (by decide)]; exact h117
                refine lv_aload_n X.1 X.2.1 dX9_rank_125 rfl (lv_at hl 1 rfl) ?_
                refine gF X hw (by decide) hm_MO rfl (by decide +kernel) 1 (by decide) (ref := "RankBenchModel") rfl (by decide +kernel) rfl dX9_rank_126 ?_
                refine lv_bipush (v := 16) X.1 X.2.1 dX9_rank_129 (by decide) ?_
                refine lv_iload X.1 X.2.1 dX9_rank_131 (lv_at hl 0 rfl) ?_
                refine lv_imul X.1 X.2.1 dX9_rank_133 ?_
                refine lv_aload_n X.1 X.2.1 dX9_rank_134 rfl (lv_at hl 1 rfl) ?_
                refine gF X hw (by decide) hm_MO rfl (by decide +kernel) 2 (by decide) (ref := "RankBenchModel") rfl (by decide +kernel) rfl dX9_rank_135 ?_
                refine lv_iload X.1 X.2.1 dX9_rank_138 (lv_at hl 0 rfl) ?_
                refine aI X hw (by decide) hm_ms (vp_in_iff.mpr ⟨by omega, by omega⟩) dX9_rank_140 ?_
                refine lv_iadd X.1 X.2.1 dX9_rank_141 ?_
                refine lv_iload_n X.1 X.2.1 dX9_rank_142 rfl (lv_at hl 4 rfl) ?_
                have ix143 := ix16 (k := x14) (i := M29.1 3 x14.toNatClampNeg) (by omega) h125
                refine sI X hw hS (ui M29 2 ((16 * x14) + (M29.1 3 x14.toNatClampNeg)).toNatClampNeg a3) (by decide) hm_mr (vp_in_iff.mpr ⟨by omega, by omega⟩) (by rw [hm_mr, ui_same]) (fun j hj => ui_ne hj) (fun j hj => rfl) (okM_ui hw.2.2.2.2 (Or.inr (Or.inr (Or.inl ⟨Or.inl rfl, by omega, by omega⟩)))) dX9_rank_143 (fun H locs hw hS => ?_)
                refine tpb (fun M30 eM30 => ?_)
                rw [← eM30] at hw
                have h144 : 0 ≤ (M30.1 3 x14.toNatClampNeg).toInt ∧ (M30.1 3 x14.toNatClampNeg).toInt < 16 := by rw [eM30, ui_ne (by decide)]; exact h125
                refine lv_aload_n X.1 X.2.1 dX9_rank_144 rfl (lv_at hl 1 rfl) ?_
                refine gF X hw (by decide) hm_MO rfl (by decide +kernel) 2 (by decide) (ref := "RankBenchModel") rfl (by decide +kernel) rfl dX9_rank_145 ?_
                refine lv_iload X.1 X.2.1 dX9_rank_148 (lv_at hl 0 rfl) ?_
                refine lv_dup2_11 X.1 X.2.1 dX9_rank_150 rfl rfl ?_
                refine aI X hw (by decide) hm_ms (vp_in_iff.mpr ⟨by omega, by omega⟩) dX9_rank_151 ?_
                refine lv_iconst (v := 1) X.1 X.2.1 dX9_rank_152 (by decide) ?_
                refine lv_iadd X.1 X.2.1 dX9_rank_153 ?_
                refine tni (fun x31 ex31 => ?_)
                have q154 := inc_sp (M30.1 3 x14.toNatClampNeg)
                rw [← ex31] at q154
                refine sI X hw hS (ui M30 3 x14.toNatClampNeg x31) (by decide) hm_ms (vp_in_iff.mpr ⟨by omega, by omega⟩) (by rw [hm_ms, ui_same]) (fun j hj => ui_ne hj) (fun j hj => rfl) (okM_ui hw.2.2.2.2 (Or.inr (Or.inl ⟨rfl, by first | decide | omega, by first | decide | omega⟩))) dX9_rank_154 (fun H locs hw hS => ?_)
                refine tpb (fun M32 eM32 => ?_)
                rw [← eM32] at hw
                refine lv_aload_n X.1 X.2.1 dX9_rank_155 rfl (lv_at hl 1 rfl) ?_
                refine gF X hw (by decide) hm_MO rfl (by decide +kernel) 2 (by decide) (ref := "RankBenchModel") rfl (by decide +kernel) rfl dX9_rank_156 ?_
                refine lv_iload X.1 X.2.1 dX9_rank_159 (lv_at hl 0 rfl) ?_
                refine aI X hw (by decide) hm_ms (vp_in_iff.mpr ⟨by omega, by omega⟩) dX9_rank_161 ?_
                exact rQ X hr hlk hw hS dX9_rank_162
            · skip
              have t33 : ¬ (M.1 4 x14.toNatClampNeg).toInt = 0 := i_ne c17
              refine lv_aload_n X.1 X.2.1 dX9_rank_74 rfl (lv_at hl 1 rfl) ?_
              refine gF X hw (by decide) hm_MO rfl (by decide +kernel) 2 (by decide) (ref := "RankBenchModel") rfl (by decide +kernel) rfl dX9_rank_75 ?_
              refine lv_iload X.1 X.2.1 dX9_rank_78 (lv_at hl 0 rfl) ?_
              refine aI X hw (by decide) hm_ms (vp_in_iff.mpr ⟨by omega, by omega⟩) dX9_rank_80 ?_
              refine lv_bipush (v := 16) X.1 X.2.1 dX9_rank_81 (by decide) ?_
              refine bi_ne (tgt := 89) X dX9_rank_83 (by decide) (fun c34 => ?_) (fun c34 => ?_)
              · skip
                have t35 : ¬ (M.1 3 x14.toNatClampNeg).toInt = 16 := i_ne c34
                refine lv_aload_n X.1 X.2.1 dX9_rank_89 rfl (lv_at hl 1 rfl) ?_
                refine gF X hw (by decide) hm_MO rfl (by decide +kernel) 2 (by decide) (ref := "RankBenchModel") rfl (by decide +kernel) rfl dX9_rank_90 ?_
                refine lv_iload X.1 X.2.1 dX9_rank_93 (lv_at hl 0 rfl) ?_
                refine lv_aload_n X.1 X.2.1 dX9_rank_95 rfl (lv_at hl 1 rfl) ?_
                refine gF X hw (by decide) hm_MO rfl (by decide +kernel) 3 (by decide) (ref := "RankBenchModel") rfl (by decide +kernel) rfl dX9_rank_96 ?_
                refine lv_iload X.1 X.2.1 dX9_rank_99 (lv_at hl 0 rfl) ?_
                refine aZ X hw (by decide) hm_mt (vp_in_iff.mpr ⟨by omega, by omega⟩) dX9_rank_101 ?_
                refine bz_eq (tgt := 115) X dX9_rank_102 (by decide) (fun c36 => ?_) (fun c36 => ?_)
                · skip
                  have t37 : (M.1 4 x14.toNatClampNeg).toInt = 0 := i_eq c36
                  refine lv_iconst (v := 0) X.1 X.2.1 dX9_rank_115 (by decide) ?_
                  refine sI X hw hS (ui M 3 x14.toNatClampNeg 0) (by decide) hm_ms (vp_in_iff.mpr ⟨by omega, by omega⟩) (by rw [hm_ms, ui_same]) (fun j hj => ui_ne hj) (fun j hj => rfl) (okM_ui hw.2.2.2.2 (Or.inr (Or.inl ⟨rfl, by first | decide | omega, by first | decide | omega⟩))) dX9_rank_116 (fun H locs hw hS => ?_)
                  refine tpb (fun M38 eM38 => ?_)
                  rw [← eM38] at hw
                  have h117 : 0 ≤ (M38.1 3 x14.toNatClampNeg).toInt ∧ (M38.1 3 x14.toNatClampNeg).toInt < 16 := by rw [eM38, ui_same, pk_us]; first | decide | omega
                  refine lv_aload_n X.1 X.2.1 dX9_rank_117 rfl (lv_at hl 1 rfl) ?_
                  refine gF X hw (by decide) hm_MO rfl (by decide +kernel) 3 (by decide) (ref := "RankBenchModel") rfl (by decide +kernel) rfl dX9_rank_118 ?_
                  refine lv_iload X.1 X.2.1 dX9_rank_121 (lv_at hl 0 rfl) ?_
                  refine lv_iconst (v := 1) X.1 X.2.1 dX9_rank_123 (by decide) ?_
                  refine sZ X hw hS (ui M38 4 x14.toNatClampNeg (vp_nar .boolean 1)) (by decide) hm_mt (vp_in_iff.mpr ⟨by omega, by omega⟩) (by rw [hm_mt, ui_same]) (fun j hj => ui_ne hj) (fun j hj => rfl) (okM_ui hw.2.2.2.2 (Or.inl (by decide))) dX9_rank_124 (fun H locs hw hS => ?_)
                  refine tpb (fun M39 eM39 => ?_)
                  rw [← eM39] at hw
                  have h125 : 0 ≤ (M39.1 3 x14.toNatClampNeg).toInt ∧ (M39.1 3 x14.toNatClampNeg).toInt < 16 := by rw [eM39, ui_ne (by decide)]; exact h117
                  refine lv_aload_n X.1 X.2.1 dX9_rank_125 rfl (lv_at hl 1 rfl) ?_
                  refine gF X hw (by decide) hm_MO rfl (by decide +kernel) 1 (by decide) (ref := "RankBenchModel") rfl (by decide +kernel) rfl dX9_rank_126 ?_
                  refine lv_bipush (v := 16) X.1 X.2.1 dX9_rank_129 (by decide) ?_
                  refine lv_iload X.1 X.2.1 dX9_rank_131 (lv_at hl 0 rfl) ?_
                  refine lv_imul X.1 X.2.1 dX9_rank_133 ?_
                  refine lv_aload_n X.1 X.2.1 dX9_rank_134 rfl (lv_at hl 1 rfl) ?_
                  refine gF X hw (by decide) hm_MO rfl (by decide +kernel) 2 (by decide) (ref := "RankBenchModel") rfl (by decide +kernel) rfl dX9_rank_135 ?_
                  refine lv_iload X.1 X.2.1 dX9_rank_138 (lv_at hl 0 rfl) ?_
                  refine aI X hw (by decide) hm_ms (vp_in_iff.mpr ⟨by omega, by omega⟩) dX9_rank_140 ?_
                  refine lv_iadd X.1 X.2.1 dX9_rank_141 ?_
                  refine lv_iload_n X.1 X.2.1 dX9_rank_142 rfl (lv_at hl 4 rfl) ?_
                  have ix143 := ix16 (k := x14) (i := M39.1 3 x14.toNatClampNeg) (by omega) h125
                  refine sI X hw hS (ui M39 2 ((16 * x14) + (M39.1 3 x14.toNatClampNeg)).toNatClampNeg a3) (by decide) hm_mr (vp_in_iff.mpr ⟨by omega, by omega⟩) (by rw [hm_mr, ui_same]) (fun j hj => ui_ne hj) (fun j hj => rfl) (okM_ui hw.2.2.2.2 (Or.inr (Or.inr (Or.inl ⟨Or.inl rfl, by omega, by omega⟩)))) dX9_rank_143 (fun H locs hw hS => ?_)
                  refine tpb (fun M40 eM40 => ?_)
                  rw [← eM40] at hw
                  have h144 : 0 ≤ (M40.1 3 x14.toNatClampNeg).toInt ∧ (M40.1 3 x14.toNatClampNeg).toInt < 16 := by rw [eM40, ui_ne (by decide)]; exact h125
                  refine lv_aload_n X.1 X.2.1 dX9_rank_144 rfl (lv_at hl 1 rfl) ?_
                  refine gF X hw (by decide) hm_MO rfl (by decide +kernel) 2 (by decide) (ref := "RankBenchModel") rfl (by decide +kernel) rfl dX9_rank_145 ?_
                  refine lv_iload X.1 X.2.1 dX9_rank_148 (lv_at hl 0 rfl) ?_
                  refine lv_dup2_11 X.1 X.2.1 dX9_rank_150 rfl rfl ?_
                  refine aI X hw (by decide) hm_ms (vp_in_iff.mpr ⟨by omega, by omega⟩) dX9_rank_151 ?_
                  refine lv_iconst (v := 1) X.1 X.2.1 dX9_rank_152 (by decide) ?_
                  refine lv_iadd X.1 X.2.1 dX9_rank_153 ?_
                  refine tni (fun x41 ex41 => ?_)
                  have q154 := inc_sp (M40.1 3 x14.toNatClampNeg)
                  rw [← ex41] at q154
                  refine sI X hw hS (ui M40 3 x14.toNatClampNeg x41) (by decide) hm_ms (vp_in_iff.mpr ⟨by omega, by omega⟩) (by rw [hm_ms, ui_same]) (fun j hj => ui_ne hj) (fun j hj => rfl) (okM_ui hw.2.2.2.2 (Or.inr (Or.inl ⟨rfl, by first | decide | omega, by first | decide | omega⟩))) dX9_rank_154 (fun H locs hw hS => ?_)
                  refine tpb (fun M42 eM42 => ?_)
                  rw [← eM42] at hw
                  refine lv_aload_n X.1 X.2.1 dX9_rank_155 rfl (lv_at hl 1 rfl) ?_
                  refine gF X hw (by decide) hm_MO rfl (by decide +kernel) 2 (by decide) (ref := "RankBenchModel") rfl (by decide +kernel) rfl dX9_rank_156 ?_
                  refine lv_iload X.1 X.2.1 dX9_rank_159 (lv_at hl 0 rfl) ?_
                  refine aI X hw (by decide) hm_ms (vp_in_iff.mpr ⟨by omega, by omega⟩) dX9_rank_161 ?_
                  exact rQ X hr hlk hw hS dX9_rank_162
                · skip
                  have t43 : ¬ (M.1 4 x14.toNatClampNeg).toInt = 0 := i_ne c36
                  refine lv_aload_n X.1 X.2.1 dX9_rank_105 rfl (lv_at hl 1 rfl) ?_
                  refine gF X hw (by decide) hm_MO rfl (by decide +kernel) 2 (by decide) (ref := "RankBenchModel") rfl (by decide +kernel) rfl dX9_rank_106 ?_
                  refine lv_iload X.1 X.2.1 dX9_rank_109 (lv_at hl 0 rfl) ?_
                  refine aI X hw (by decide) hm_ms (vp_in_iff.mpr ⟨by omega, by omega⟩) dX9_rank_111 ?_
                  refine lv_goto (tgt := 116) X.1 X.2.1 dX9_rank_112 (by decide) ?_
                  refine tni (fun x44 ex44 => ?_)
                  have zs := hw.2.2.2.2.1 x14.toNatClampNeg (clampN (by omega) (by omega))
                  have zs2 := congrArg Int32.toInt ex44
                  refine sI X hw hS (ui M 3 x14.toNatClampNeg x44) (by decide) hm_ms (vp_in_iff.mpr ⟨by omega, by omega⟩) (by rw [hm_ms, ui_same]) (fun j hj => ui_ne hj) (fun j hj => rfl) (okM_ui hw.2.2.2.2 (Or.inr (Or.inl ⟨rfl, by first | decide | omega, by first | decide | omega⟩))) dX9_rank_116 (fun H locs hw hS => ?_)
                  refine tpb (fun M45 eM45 => ?_)
                  rw [← eM45] at hw
                  have h117 : 0 ≤ (M45.1 3 x14.toNatClampNeg).toInt ∧ (M45.1 3 x14.toNatClampNeg).toInt < 16 := by rw [eM45, ui_same, pk_us]; first | decide | omega
                  refine lv_aload_n X.1 X.2.1 dX9_rank_117 rfl (lv_at hl 1 rfl) ?_
                  refine gF X hw (by decide) hm_MO rfl (by decide +kernel) 3 (by decide) (ref := "RankBenchModel") rfl (by decide +kernel) rfl dX9_rank_118 ?_
                  refine lv_iload X.1 X.2.1 dX9_rank_121 (lv_at hl 0 rfl) ?_
                  refine lv_iconst (v := 1) X.1 X.2.1 dX9_rank_123 (by decide) ?_
                  refine sZ X hw hS (ui M45 4 x14.toNatClampNeg (vp_nar .boolean 1)) (by decide) hm_mt (vp_in_iff.mpr ⟨by omega, by omega⟩) (by rw [hm_mt, ui_same]) (fun j hj => ui_ne hj) (fun j hj => rfl) (okM_ui hw.2.2.2.2 (Or.inl (by decide))) dX9_rank_124 (fun H locs hw hS => ?_)
                  refine tpb (fun M46 eM46 => ?_)
                  rw [← eM46] at hw
                  have h125 : 0 ≤ (M46.1 3 x14.toNatClampNeg).toInt ∧ (M46.1 3 x14.toNatClampNeg).toInt < 16 := by rw [eM46, ui_ne (by decide)]; exact h117
                  refine lv_aload_n X.1 X.2.1 dX9_rank_125 rfl (lv_at hl 1 rfl) ?_
                  refine gF X hw (by decide) hm_MO rfl (by decide +kernel) 1 (by decide) (ref := "RankBenchModel") rfl (by decide +kernel) rfl dX9_rank_126 ?_
                  refine lv_bipush (v := 16) X.1 X.2.1 dX9_rank_129 (by decide) ?_
                  refine lv_iload X.1 X.2.1 dX9_rank_131 (lv_at hl 0 rfl) ?_
                  refine lv_imul X.1 X.2.1 dX9_rank_133 ?_
                  refine lv_aload_n X.1 X.2.1 dX9_rank_134 rfl (lv_at hl 1 rfl) ?_
                  refine gF X hw (by decide) hm_MO rfl (by decide +kernel) 2 (by decide) (ref := "RankBenchModel") rfl (by decide +kernel) rfl dX9_rank_135 ?_
                  refine lv_iload X.1 X.2.1 dX9_rank_138 (lv_at hl 0 rfl) ?_
                  refine aI X hw (by decide) hm_ms (vp_in_iff.mpr ⟨by omega, by omega⟩) dX9_rank_140 ?_
                  refine lv_iadd X.1 X.2.1 dX9_rank_141 ?_
                  refine lv_iload_n X.1 X.2.1 dX9_rank_142 rfl (lv_at hl 4 rfl) ?_
                  have ix143 := ix16 (k := x14) (i := M46.1 3 x14.toNatClampNeg) (by omega) h125
                  refine sI X hw hS (ui M46 2 ((16 * x14) + (M46.1 3 x14.toNatClampNeg)).toNatClampNeg a3) (by decide) hm_mr (vp_in_iff.mpr ⟨by omega, by omega⟩) (by rw [hm_mr, ui_same]) (fun j hj => ui_ne hj) (fun j hj => rfl) (okM_ui hw.2.2.2.2 (Or.inr (Or.inr (Or.inl ⟨Or.inl rfl, by omega, by omega⟩)))) dX9_rank_143 (fun H locs hw hS => ?_)
                  refine tpb (fun M47 eM47 => ?_)
                  rw [← eM47] at hw
                  have h144 : 0 ≤ (M47.1 3 x14.toNatClampNeg).toInt ∧ (M47.1 3 x14.toNatClampNeg).toInt < 16 := by rw [eM47, ui_ne (by decide)]; exact h125
                  refine lv_aload_n X.1 X.2.1 dX9_rank_144 rfl (lv_at hl 1 rfl) ?_
                  refine gF X hw (by decide) hm_MO rfl (by decide +kernel) 2 (by decide) (ref := "RankBenchModel") rfl (by decide +kernel) rfl dX9_rank_145 ?_
                  refine lv_iload X.1 X.2.1 dX9_rank_148 (lv_at hl 0 rfl) ?_
                  refine lv_dup2_11 X.1 X.2.1 dX9_rank_150 rfl rfl ?_
                  refine aI X hw (by decide) hm_ms (vp_in_iff.mpr ⟨by omega, by omega⟩) dX9_rank_151 ?_
                  refine lv_iconst (v := 1) X.1 X.2.1 dX9_rank_152 (by decide) ?_
                  refine lv_iadd X.1 X.2.1 dX9_rank_153 ?_
                  refine tni (fun x48 ex48 => ?_)
                  have q154 := inc_sp (M47.1 3 x14.toNatClampNeg)
                  rw [← ex48] at q154
                  refine sI X hw hS (ui M47 3 x14.toNatClampNeg x48) (by decide) hm_ms (vp_in_iff.mpr ⟨by omega, by omega⟩) (by rw [hm_ms, ui_same]) (fun j hj => ui_ne hj) (fun j hj => rfl) (okM_ui hw.2.2.2.2 (Or.inr (Or.inl ⟨rfl, by first | decide | omega, by first | decide | omega⟩))) dX9_rank_154 (fun H locs hw hS => ?_)
                  refine tpb (fun M49 eM49 => ?_)
                  rw [← eM49] at hw
                  refine lv_aload_n X.1 X.2.1 dX9_rank_155 rfl (lv_at hl 1 rfl) ?_
                  refine gF X hw (by decide) hm_MO rfl (by decide +kernel) 2 (by decide) (ref := "RankBenchModel") rfl (by decide +kernel) rfl dX9_rank_156 ?_
                  refine lv_iload X.1 X.2.1 dX9_rank_159 (lv_at hl 0 rfl) ?_
                  refine aI X hw (by decide) hm_ms (vp_in_iff.mpr ⟨by omega, by omega⟩) dX9_rank_161 ?_
                  exact rQ X hr hlk hw hS dX9_rank_162
              · skip
                have t50 : (M.1 3 x14.toNatClampNeg).toInt = 16 := i_eq c34
                refine lv_bipush (v := (-4)) X.1 X.2.1 dX9_rank_86 (by decide) ?_
                exact rQ X hr hlk hw hS dX9_rank_88
          · skip
            have t51 : ¬ (M.1 4 x14.toNatClampNeg).toInt = 0 := i_ne c15
            refine lv_aload_n X.1 X.2.1 dX9_rank_44 rfl (lv_at hl 1 rfl) ?_
            refine lv_iload_n X.1 X.2.1 dX9_rank_45 rfl (lv_at hl 2 rfl) ?_
            refine lv_iload_n X.1 X.2.1 dX9_rank_46 rfl (lv_at hl 3 rfl) ?_
            refine lv_iload_n X.1 X.2.1 dX9_rank_47 rfl (lv_at hl 4 rfl) ?_
            refine cVI [.int a1, .int a2, .int a3] [] X hw (c_X9_find l G A M a1 a2 a3 (by omega) (by omega)) (cwV 3 X.2.2.2.2 gX9_rank_X9_find rfl rfl rfl (by decide +kernel) ⟨Nat.le_of_ble_eq_true rfl, Nat.le_of_ble_eq_true rfl⟩) (hw.recv (by decide) hm_MO rfl) rfl rfl hl.1 (Nat.le_of_ble_eq_true rfl) dX9_rank_48 ?_
            refine tni (fun r52 er52 => ?_)
            refine lv_aload_n X.1 X.2.1 dX9_rank_51 rfl (lv_at hl 1 rfl) ?_
            refine gF X hw (by decide) hm_MO rfl (by decide +kernel) 2 (by decide) (ref := "RankBenchModel") rfl (by decide +kernel) rfl dX9_rank_52 ?_
            refine lv_iload X.1 X.2.1 dX9_rank_55 (lv_at hl 0 rfl) ?_
            refine aI X hw (by decide) hm_ms (vp_in_iff.mpr ⟨by omega, by omega⟩) dX9_rank_57 ?_
            refine bi_ge (tgt := 64) X dX9_rank_58 (by decide) (fun c53 => ?_) (fun c53 => ?_)
            · skip
              have t54 : (M.1 3 x14.toNatClampNeg).toInt ≤ r52.toInt := i_le c53
              refine lv_aload_n X.1 X.2.1 dX9_rank_64 rfl (lv_at hl 1 rfl) ?_
              refine gF X hw (by decide) hm_MO rfl (by decide +kernel) 3 (by decide) (ref := "RankBenchModel") rfl (by decide +kernel) rfl dX9_rank_65 ?_
              refine lv_iload X.1 X.2.1 dX9_rank_68 (lv_at hl 0 rfl) ?_
              refine aZ X hw (by decide) hm_mt (vp_in_iff.mpr ⟨by omega, by omega⟩) dX9_rank_70 ?_
              refine bz_eq (tgt := 89) X dX9_rank_71 (by decide) (fun c55 => ?_) (fun c55 => ?_)
              · skip
                have t56 : (M.1 4 x14.toNatClampNeg).toInt = 0 := i_eq c55
                refine lv_aload_n X.1 X.2.1 dX9_rank_89 rfl (lv_at hl 1 rfl) ?_
                refine gF X hw (by decide) hm_MO rfl (by decide +kernel) 2 (by decide) (ref := "RankBenchModel") rfl (by decide +kernel) rfl dX9_rank_90 ?_
                refine lv_iload X.1 X.2.1 dX9_rank_93 (lv_at hl 0 rfl) ?_
                refine lv_aload_n X.1 X.2.1 dX9_rank_95 rfl (lv_at hl 1 rfl) ?_
                refine gF X hw (by decide) hm_MO rfl (by decide +kernel) 3 (by decide) (ref := "RankBenchModel") rfl (by decide +kernel) rfl dX9_rank_96 ?_
                refine lv_iload X.1 X.2.1 dX9_rank_99 (lv_at hl 0 rfl) ?_
                refine aZ X hw (by decide) hm_mt (vp_in_iff.mpr ⟨by omega, by omega⟩) dX9_rank_101 ?_
                refine bz_eq (tgt := 115) X dX9_rank_102 (by decide) (fun c57 => ?_) (fun c57 => ?_)
                · skip
                  have t58 : (M.1 4 x14.toNatClampNeg).toInt = 0 := i_eq c57
                  refine lv_iconst (v := 0) X.1 X.2.1 dX9_rank_115 (by decide) ?_
                  refine sI X hw hS (ui M 3 x14.toNatClampNeg 0) (by decide) hm_ms (vp_in_iff.mpr ⟨by omega, by omega⟩) (by rw [hm_ms, ui_same]) (fun j hj => ui_ne hj) (fun j hj => rfl) (okM_ui hw.2.2.2.2 (Or.inr (Or.inl ⟨rfl, by first | decide | omega, by first | decide | omega⟩))) dX9_rank_116 (fun H locs hw hS => ?_)
                  refine tpb (fun M59 eM59 => ?_)
                  rw [← eM59] at hw
                  have h117 : 0 ≤ (M59.1 3 x14.toNatClampNeg).toInt ∧ (M59.1 3 x14.toNatClampNeg).toInt < 16 := by rw [eM59, ui_same, pk_us]; first | decide | omega
                  refine lv_aload_n X.1 X.2.1 dX9_rank_117 rfl (lv_at hl 1 rfl) ?_
                  refine gF X hw (by decide) hm_MO rfl (by decide +kernel) 3 (by decide) (ref := "RankBenchModel") rfl (by decide +kernel) rfl dX9_rank_118 ?_
                  refine lv_iload X.1 X.2.1 dX9_rank_121 (lv_at hl 0 rfl) ?_
                  refine lv_iconst (v := 1) X.1 X.2.1 dX9_rank_123 (by decide) ?_
                  refine sZ X hw hS (ui M59 4 x14.toNatClampNeg (vp_nar .boolean 1)) (by decide) hm_mt (vp_in_iff.mpr ⟨by omega, by omega⟩) (by rw [hm_mt, ui_same]) (fun j hj => ui_ne hj) (fun j hj => rfl) (okM_ui hw.2.2.2.2 (Or.inl (by decide))) dX9_rank_124 (fun H locs hw hS => ?_)
                  refine tpb (fun M60 eM60 => ?_)
                  rw [← eM60] at hw
                  have h125 : 0 ≤ (M60.1 3 x14.toNatClampNeg).toInt ∧ (M60.1 3 x14.toNatClampNeg).toInt < 16 := by rw [eM60, ui_ne (by decide)]; exact h117
                  refine lv_aload_n X.1 X.2.1 dX9_rank_125 rfl (lv_at hl 1 rfl) ?_
                  refine gF X hw (by decide) hm_MO rfl (by decide +kernel) 1 (by decide) (ref := "RankBenchModel") rfl (by decide +kernel) rfl dX9_rank_126 ?_
                  refine lv_bipush (v := 16) X.1 X.2.1 dX9_rank_129 (by decide) ?_
                  refine lv_iload X.1 X.2.1 dX9_rank_131 (lv_at hl 0 rfl) ?_
                  refine lv_imul X.1 X.2.1 dX9_rank_133 ?_
                  refine lv_aload_n X.1 X.2.1 dX9_rank_134 rfl (lv_at hl 1 rfl) ?_
                  refine gF X hw (by decide) hm_MO rfl (by decide +kernel) 2 (by decide) (ref := "RankBenchModel") rfl (by decide +kernel) rfl dX9_rank_135 ?_
                  refine lv_iload X.1 X.2.1 dX9_rank_138 (lv_at hl 0 rfl) ?_
                  refine aI X hw (by decide) hm_ms (vp_in_iff.mpr ⟨by omega, by omega⟩) dX9_rank_140 ?_
                  refine lv_iadd X.1 X.2.1 dX9_rank_141 ?_
                  refine lv_iload_n X.1 X.2.1 dX9_rank_142 rfl (lv_at hl 4 rfl) ?_
                  have ix143 := ix16 (k := x14) (i := M60.1 3 x14.toNatClampNeg) (by omega) h125
                  refine sI X hw hS (ui M60 2 ((16 * x14) + (M60.1 3 x14.toNatClampNeg)).toNatClampNeg a3) (by decide) hm_mr (vp_in_iff.mpr ⟨by omega, by omega⟩) (by rw [hm_mr, ui_same]) (fun j hj => ui_ne hj) (fun j hj => rfl) (okM_ui hw.2.2.2.2 (Or.inr (Or.inr (Or.inl ⟨Or.inl rfl, by omega, by omega⟩)))) dX9_rank_143 (fun H locs hw hS => ?_)
                  refine tpb (fun M61 eM61 => ?_)
                  rw [← eM61] at hw
                  have h144 : 0 ≤ (M61.1 3 x14.toNatClampNeg).toInt ∧ (M61.1 3 x14.toNatClampNeg).toInt < 16 := by rw [eM61, ui_ne (by decide)]; exact h125
                  refine lv_aload_n X.1 X.2.1 dX9_rank_144 rfl (lv_at hl 1 rfl) ?_
                  refine gF X hw (by decide) hm_MO rfl (by decide +kernel) 2 (by decide) (ref := "RankBenchModel") rfl (by decide +kernel) rfl dX9_rank_145 ?_
                  refine lv_iload X.1 X.2.1 dX9_rank_148 (lv_at hl 0 rfl) ?_
                  refine lv_dup2_11 X.1 X.2.1 dX9_rank_150 rfl rfl ?_
                  refine aI X hw (by decide) hm_ms (vp_in_iff.mpr ⟨by omega, by omega⟩) dX9_rank_151 ?_
                  refine lv_iconst (v := 1) X.1 X.2.1 dX9_rank_152 (by decide) ?_
                  refine lv_iadd X.1 X.2.1 dX9_rank_153 ?_
                  refine tni (fun x62 ex62 => ?_)
                  have q154 := inc_sp (M61.1 3 x14.toNatClampNeg)
                  rw [← ex62] at q154
                  refine sI X hw hS (ui M61 3 x14.toNatClampNeg x62) (by decide) hm_ms (vp_in_iff.mpr ⟨by omega, by omega⟩) (by rw [hm_ms, ui_same]) (fun j hj => ui_ne hj) (fun j hj => rfl) (okM_ui hw.2.2.2.2 (Or.inr (Or.inl ⟨rfl, by first | decide | omega, by first | decide | omega⟩))) dX9_rank_154 (fun H locs hw hS => ?_)
                  refine tpb (fun M63 eM63 => ?_)
                  rw [← eM63] at hw
                  refine lv_aload_n X.1 X.2.1 dX9_rank_155 rfl (lv_at hl 1 rfl) ?_
                  refine gF X hw (by decide) hm_MO rfl (by decide +kernel) 2 (by decide) (ref := "RankBenchModel") rfl (by decide +kernel) rfl dX9_rank_156 ?_
                  refine lv_iload X.1 X.2.1 dX9_rank_159 (lv_at hl 0 rfl) ?_
                  refine aI X hw (by decide) hm_ms (vp_in_iff.mpr ⟨by omega, by omega⟩) dX9_rank_161 ?_
                  exact rQ X hr hlk hw hS dX9_rank_162
                · skip
                  have t64 : ¬ (M.1 4 x14.toNatClampNeg).toInt = 0 := i_ne c57
                  refine lv_aload_n X.1 X.2.1 dX9_rank_105 rfl (lv_at hl 1 rfl) ?_
                  refine gF X hw (by decide) hm_MO rfl (by decide +kernel) 2 (by decide) (ref := "RankBenchModel") rfl (by decide +kernel) rfl dX9_rank_106 ?_
                  refine lv_iload X.1 X.2.1 dX9_rank_109 (lv_at hl 0 rfl) ?_
                  refine aI X hw (by decide) hm_ms (vp_in_iff.mpr ⟨by omega, by omega⟩) dX9_rank_111 ?_
                  refine lv_goto (tgt := 116) X.1 X.2.1 dX9_rank_112 (by decide) ?_
                  refine tni (fun x65 ex65 => ?_)
                  have zs := hw.2.2.2.2.1 x14.toNatClampNeg (clampN (by omega) (by omega))
                  have zs2 := congrArg Int32.toInt ex65
                  refine sI X hw hS (ui M 3 x14.toNatClampNeg x65) (by decide) hm_ms (vp_in_iff.mpr ⟨by omega, by omega⟩) (by rw [hm_ms, ui_same]) (fun j hj => ui_ne hj) (fun j hj => rfl) (okM_ui hw.2.2.2.2 (Or.inr (Or.inl ⟨rfl, by first | decide | omega, by first | decide | omega⟩))) dX9_rank_116 (fun H locs hw hS => ?_)
                  refine tpb (fun M66 eM66 => ?_)
                  rw [← eM66] at hw
                  have h117 : 0 ≤ (M66.1 3 x14.toNatClampNeg).toInt ∧ (M66.1 3 x14.toNatClampNeg).toInt < 16 := by rw [eM66, ui_same, pk_us]; first | decide | omega
                  refine lv_aload_n X.1 X.2.1 dX9_rank_117 rfl (lv_at hl 1 rfl) ?_
                  refine gF X hw (by decide) hm_MO rfl (by decide +kernel) 3 (by decide) (ref := "RankBenchModel") rfl (by decide +kernel) rfl dX9_rank_118 ?_
                  refine lv_iload X.1 X.2.1 dX9_rank_121 (lv_at hl 0 rfl) ?_
                  refine lv_iconst (v := 1) X.1 X.2.1 dX9_rank_123 (by decide) ?_
                  refine sZ X hw hS (ui M66 4 x14.toNatClampNeg (vp_nar .boolean 1)) (by decide) hm_mt (vp_in_iff.mpr ⟨by omega, by omega⟩) (by rw [hm_mt, ui_same]) (fun j hj => ui_ne hj) (fun j hj => rfl) (okM_ui hw.2.2.2.2 (Or.inl (by decide))) dX9_rank_124 (fun H locs hw hS => ?_)
                  refine tpb (fun M67 eM67 => ?_)
                  rw [← eM67] at hw
                  have h125 : 0 ≤ (M67.1 3 x14.toNatClampNeg).toInt ∧ (M67.1 3 x14.toNatClampNeg).toInt < 16 := by rw [eM67, ui_ne (by decide)]; exact h117
                  refine lv_aload_n X.1 X.2.1 dX9_rank_125 rfl (lv_at hl 1 rfl) ?_
                  refine gF X hw (by decide) hm_MO rfl (by decide +kernel) 1 (by decide) (ref := "RankBenchModel") rfl (by decide +kernel) rfl dX9_rank_126 ?_
                  refine lv_bipush (v := 16) X.1 X.2.1 dX9_rank_129 (by decide) ?_
                  refine lv_iload X.1 X.2.1 dX9_rank_131 (lv_at hl 0 rfl) ?_
                  refine lv_imul X.1 X.2.1 dX9_rank_133 ?_
                  refine lv_aload_n X.1 X.2.1 dX9_rank_134 rfl (lv_at hl 1 rfl) ?_
                  refine gF X hw (by decide) hm_MO rfl (by decide +kernel) 2 (by decide) (ref := "RankBenchModel") rfl (by decide +kernel) rfl dX9_rank_135 ?_
                  refine lv_iload X.1 X.2.1 dX9_rank_138 (lv_at hl 0 rfl) ?_
                  refine aI X hw (by decide) hm_ms (vp_in_iff.mpr ⟨by omega, by omega⟩) dX9_rank_140 ?_
                  refine lv_iadd X.1 X.2.1 dX9_rank_141 ?_
                  refine lv_iload_n X.1 X.2.1 dX9_rank_142 rfl (lv_at hl 4 rfl) ?_
                  have ix143 := ix16 (k := x14) (i := M67.1 3 x14.toNatClampNeg) (by omega) h125
                  refine sI X hw hS (ui M67 2 ((16 * x14) + (M67.1 3 x14.toNatClampNeg)).toNatClampNeg a3) (by decide) hm_mr (vp_in_iff.mpr ⟨by omega, by omega⟩) (by rw [hm_mr, ui_same]) (fun j hj => ui_ne hj) (fun j hj => rfl) (okM_ui hw.2.2.2.2 (Or.inr (Or.inr (Or.inl ⟨Or.inl rfl, by omega, by omega⟩)))) dX9_rank_143 (fun H locs hw hS => ?_)
                  refine tpb (fun M68 eM68 => ?_)
                  rw [← eM68] at hw
                  have h144 : 0 ≤ (M68.1 3 x14.toNatClampNeg).toInt ∧ (M68.1 3 x14.toNatClampNeg).toInt < 16 := by rw [eM68, ui_ne (by decide)]; exact h125
                  refine lv_aload_n X.1 X.2.1 dX9_rank_144 rfl (lv_at hl 1 rfl) ?_
                  refine gF X hw (by decide) hm_MO rfl (by decide +kernel) 2 (by decide) (ref := "RankBenchModel") rfl (by decide +kernel) rfl dX9_rank_145 ?_
                  refine lv_iload X.1 X.2.1 dX9_rank_148 (lv_at hl 0 rfl) ?_
                  refine lv_dup2_11 X.1 X.2.1 dX9_rank_150 rfl rfl ?_
                  refine aI X hw (by decide) hm_ms (vp_in_iff.mpr ⟨by omega, by omega⟩) dX9_rank_151 ?_
                  refine lv_iconst (v := 1) X.1 X.2.1 dX9_rank_152 (by decide) ?_
                  refine lv_iadd X.1 X.2.1 dX9_rank_153 ?_
                  refine tni (fun x69 ex69 => ?_)
                  have q154 := inc_sp (M68.1 3 x14.toNatClampNeg)
                  rw [← ex69] at q154
                  refine sI X hw hS (ui M68 3 x14.toNatClampNeg x69) (by decide) hm_ms (vp_in_iff.mpr ⟨by omega, by omega⟩) (by rw [hm_ms, ui_same]) (fun j hj => ui_ne hj) (fun j hj => rfl) (okM_ui hw.2.2.2.2 (Or.inr (Or.inl ⟨rfl, by first | decide | omega, by first | decide | omega⟩))) dX9_rank_154 (fun H locs hw hS => ?_)
                  refine tpb (fun M70 eM70 => ?_)
                  rw [← eM70] at hw
                  refine lv_aload_n X.1 X.2.1 dX9_rank_155 rfl (lv_at hl 1 rfl) ?_
                  refine gF X hw (by decide) hm_MO rfl (by decide +kernel) 2 (by decide) (ref := "RankBenchModel") rfl (by decide +kernel) rfl dX9_rank_156 ?_
                  refine lv_iload X.1 X.2.1 dX9_rank_159 (lv_at hl 0 rfl) ?_
                  refine aI X hw (by decide) hm_ms (vp_in_iff.mpr ⟨by omega, by omega⟩) dX9_rank_161 ?_
                  exact rQ X hr hlk hw hS dX9_rank_162
              · skip
                have t71 : ¬ (M.1 4 x14.toNatClampNeg).toInt = 0 := i_ne c55
                refine lv_aload_n X.1 X.2.1 dX9_rank_74 rfl (lv_at hl 1 rfl) ?_
                refine gF X hw (by decide) hm_MO rfl (by decide +kernel) 2 (by decide) (ref := "RankBenchModel") rfl (by decide +kernel) rfl dX9_rank_75 ?_
                refine lv_iload X.1 X.2.1 dX9_rank_78 (lv_at hl 0 rfl) ?_
                refine aI X hw (by decide) hm_ms (vp_in_iff.mpr ⟨by omega, by omega⟩) dX9_rank_80 ?_
                refine lv_bipush (v := 16) X.1 X.2.1 dX9_rank_81 (by decide) ?_
                refine bi_ne (tgt := 89) X dX9_rank_83 (by decide) (fun c72 => ?_) (fun c72 => ?_)
                · skip
                  have t73 : ¬ (M.1 3 x14.toNatClampNeg).toInt = 16 := i_ne c72
                  refine lv_aload_n X.1 X.2.1 dX9_rank_89 rfl (lv_at hl 1 rfl) ?_
                  refine gF X hw (by decide) hm_MO rfl (by decide +kernel) 2 (by decide) (ref := "RankBenchModel") rfl (by decide +kernel) rfl dX9_rank_90 ?_
                  refine lv_iload X.1 X.2.1 dX9_rank_93 (lv_at hl 0 rfl) ?_
                  refine lv_aload_n X.1 X.2.1 dX9_rank_95 rfl (lv_at hl 1 rfl) ?_
                  refine gF X hw (by decide) hm_MO rfl (by decide +kernel) 3 (by decide) (ref := "RankBenchModel") rfl (by decide +kernel) rfl dX9_rank_96 ?_
                  refine lv_iload X.1 X.2.1 dX9_rank_99 (lv_at hl 0 rfl) ?_
                  refine aZ X hw (by decide) hm_mt (vp_in_iff.mpr ⟨by omega, by omega⟩) dX9_rank_101 ?_
                  refine bz_eq (tgt := 115) X dX9_rank_102 (by decide) (fun c74 => ?_) (fun c74 => ?_)
                  · skip
                    have t75 : (M.1 4 x14.toNatClampNeg).toInt = 0 := i_eq c74
                    refine lv_iconst (v := 0) X.1 X.2.1 dX9_rank_115 (by decide) ?_
                    refine sI X hw hS (ui M 3 x14.toNatClampNeg 0) (by decide) hm_ms (vp_in_iff.mpr ⟨by omega, by omega⟩) (by rw [hm_ms, ui_same]) (fun j hj => ui_ne hj) (fun j hj => rfl) (okM_ui hw.2.2.2.2 (Or.inr (Or.inl ⟨rfl, by first | decide | omega, by first | decide | omega⟩))) dX9_rank_116 (fun H locs hw hS => ?_)
                    refine tpb (fun M76 eM76 => ?_)
                    rw [← eM76] at hw
                    have h117 : 0 ≤ (M76.1 3 x14.toNatClampNeg).toInt ∧ (M76.1 3 x14.toNatClampNeg).toInt < 16 := by rw [eM76, ui_same, pk_us]; first | decide | omega
                    refine lv_aload_n X.1 X.2.1 dX9_rank_117 rfl (lv_at hl 1 rfl) ?_
                    refine gF X hw (by decide) hm_MO rfl (by decide +kernel) 3 (by decide) (ref := "RankBenchModel") rfl (by decide +kernel) rfl dX9_rank_118 ?_
                    refine lv_iload X.1 X.2.1 dX9_rank_121 (lv_at hl 0 rfl) ?_
                    refine lv_iconst (v := 1) X.1 X.2.1 dX9_rank_123 (by decide) ?_
                    refine sZ X hw hS (ui M76 4 x14.toNatClampNeg (vp_nar .boolean 1)) (by decide) hm_mt (vp_in_iff.mpr ⟨by omega, by omega⟩) (by rw [hm_mt, ui_same]) (fun j hj => ui_ne hj) (fun j hj => rfl) (okM_ui hw.2.2.2.2 (Or.inl (by decide))) dX9_rank_124 (fun H locs hw hS => ?_)
                    refine tpb (fun M77 eM77 => ?_)
                    rw [← eM77] at hw
                    have h125 : 0 ≤ (M77.1 3 x14.toNatClampNeg).toInt ∧ (M77.1 3 x14.toNatClampNeg).toInt < 16 := by rw [eM77, ui_ne (by decide)]; exact h117
                    refine lv_aload_n X.1 X.2.1 dX9_rank_125 rfl (lv_at hl 1 rfl) ?_
                    refine gF X hw (by decide) hm_MO rfl (by decide +kernel) 1 (by decide) (ref := "RankBenchModel") rfl (by decide +kernel) rfl dX9_rank_126 ?_
                    refine lv_bipush (v := 16) X.1 X.2.1 dX9_rank_129 (by decide) ?_
                    refine lv_iload X.1 X.2.1 dX9_rank_131 (lv_at hl 0 rfl) ?_
                    refine lv_imul X.1 X.2.1 dX9_rank_133 ?_
                    refine lv_aload_n X.1 X.2.1 dX9_rank_134 rfl (lv_at hl 1 rfl) ?_
                    refine gF X hw (by decide) hm_MO rfl (by decide +kernel) 2 (by decide) (ref := "RankBenchModel") rfl (by decide +kernel) rfl dX9_rank_135 ?_
                    refine lv_iload X.1 X.2.1 dX9_rank_138 (lv_at hl 0 rfl) ?_
                    refine aI X hw (by decide) hm_ms (vp_in_iff.mpr ⟨by omega, by omega⟩) dX9_rank_140 ?_
                    refine lv_iadd X.1 X.2.1 dX9_rank_141 ?_
                    refine lv_iload_n X.1 X.2.1 dX9_rank_142 rfl (lv_at hl 4 rfl) ?_
                    have ix143 := ix16 (k := x14) (i := M77.1 3 x14.toNatClampNeg) (by omega) h125
                    refine sI X hw hS (ui M77 2 ((16 * x14) + (M77.1 3 x14.toNatClampNeg)).toNatClampNeg a3) (by decide) hm_mr (vp_in_iff.mpr ⟨by omega, by omega⟩) (by rw [hm_mr, ui_same]) (fun j hj => ui_ne hj) (fun j hj => rfl) (okM_ui hw.2.2.2.2 (Or.inr (Or.inr (Or.inl ⟨Or.inl rfl, by omega, by omega⟩)))) dX9_rank_143 (fun H locs hw hS => ?_)
                    refine tpb (fun M78 eM78 => ?_)
                    rw [← eM78] at hw
                    have h144 : 0 ≤ (M78.1 3 x14.toNatClampNeg).toInt ∧ (M78.1 3 x14.toNatClampNeg).toInt < 16 := by rw [eM78, ui_ne (by decide)]; exact h125
                    refine lv_aload_n X.1 X.2.1 dX9_rank_144 rfl (lv_at hl 1 rfl) ?_
                    refine gF X hw (by decide) hm_MO rfl (by decide +kernel) 2 (by decide) (ref := "RankBenchModel") rfl (by decide +kernel) rfl dX9_rank_145 ?_
                    refine lv_iload X.1 X.2.1 dX9_rank_148 (lv_at hl 0 rfl) ?_
                    refine lv_dup2_11 X.1 X.2.1 dX9_rank_150 rfl rfl ?_
                    refine aI X hw (by decide) hm_ms (vp_in_iff.mpr ⟨by omega, by omega⟩) dX9_rank_151 ?_
                    refine lv_iconst (v := 1) X.1 X.2.1 dX9_rank_152 (by decide) ?_
                    refine lv_iadd X.1 X.2.1 dX9_rank_153 ?_
                    refine tni (fun x79 ex79 => ?_)
                    have q154 := inc_sp (M78.1 3 x14.toNatClampNeg)
                    rw [← ex79] at q154
                    refine sI X hw hS (ui M78 3 x14.toNatClampNeg x79) (by decide) hm_ms (vp_in_iff.mpr ⟨by omega, by omega⟩) (by rw [hm_ms, ui_same]) (fun j hj => ui_ne hj) (fun j hj => rfl) (okM_ui hw.2.2.2.2 (Or.inr (Or.inl ⟨rfl, by first | decide | omega, by first | decide | omega⟩))) dX9_rank_154 (fun H locs hw hS => ?_)
                    refine tpb (fun M80 eM80 => ?_)
                    rw [← eM80] at hw
                    refine lv_aload_n X.1 X.2.1 dX9_rank_155 rfl (lv_at hl 1 rfl) ?_
                    refine gF X hw (by decide) hm_MO rfl (by decide +kernel) 2 (by decide) (ref := "RankBenchModel") rfl (by decide +kernel) rfl dX9_rank_156 ?_
                    refine lv_iload X.1 X.2.1 dX9_rank_159 (lv_at hl 0 rfl) ?_
                    refine aI X hw (by decide) hm_ms (vp_in_iff.mpr ⟨by omega, by omega⟩) dX9_rank_161 ?_
                    exact rQ X hr hlk hw hS dX9_rank_162
                  · skip
                    have t81 : ¬ (M.1 4 x14.toNatClampNeg).toInt = 0 := i_ne c74
                    refine lv_aload_n X.1 X.2.1 dX9_rank_105 rfl (lv_at hl 1 rfl) ?_
                    refine gF X hw (by decide) hm_MO rfl (by decide +kernel) 2 (by decide) (ref := "RankBenchModel") rfl (by decide +kernel) rfl dX9_rank_106 ?_
                    refine lv_iload X.1 X.2.1 dX9_rank_109 (lv_at hl 0 rfl) ?_
                    refine aI X hw (by decide) hm_ms (vp_in_iff.mpr ⟨by omega, by omega⟩) dX9_rank_111 ?_
                    refine lv_goto (tgt := 116) X.1 X.2.1 dX9_rank_112 (by decide) ?_
                    refine tni (fun x82 ex82 => ?_)
                    have zs := hw.2.2.2.2.1 x14.toNatClampNeg (clampN (by omega) (by omega))
                    have zs2 := congrArg Int32.toInt ex82
                    refine sI X hw hS (ui M 3 x14.toNatClampNeg x82) (by decide) hm_ms (vp_in_iff.mpr ⟨by omega, by omega⟩) (by rw [hm_ms, ui_same]) (fun j hj => ui_ne hj) (fun j hj => rfl) (okM_ui hw.2.2.2.2 (Or.inr (Or.inl ⟨rfl, by first | decide | omega, by first | decide | omega⟩))) dX9_rank_116 (fun H locs hw hS => ?_)
                    refine tpb (fun M83 eM83 => ?_)
                    rw [← eM83] at hw
                    have h117 : 0 ≤ (M83.1 3 x14.toNatClampNeg).toInt ∧ (M83.1 3 x14.toNatClampNeg).toInt < 16 := by rw [eM83, ui_same, pk_us]; first | decide | omega
                    refine lv_aload_n X.1 X.2.1 dX9_rank_117 rfl (lv_at hl 1 rfl) ?_
                    refine gF X hw (by decide) hm_MO rfl (by decide +kernel) 3 (by decide) (ref := "RankBenchModel") rfl (by decide +kernel) rfl dX9_rank_118 ?_
                    refine lv_iload X.1 X.2.1 dX9_rank_121 (lv_at hl 0 rfl) ?_
                    refine lv_iconst (v := 1) X.1 X.2.1 dX9_rank_123 (by decide) ?_
                    refine sZ X hw hS (ui M83 4 x14.toNatClampNeg (vp_nar .boolean 1)) (by decide) hm_mt (vp_in_iff.mpr ⟨by omega, by omega⟩) (by rw [hm_mt, ui_same]) (fun j hj => ui_ne hj) (fun j hj => rfl) (okM_ui hw.2.2.2.2 (Or.inl (by decide))) dX9_rank_124 (fun H locs hw hS => ?_)
                    refine tpb (fun M84 eM84 => ?_)
                    rw [← eM84] at hw
                    have h125 : 0 ≤ (M84.1 3 x14.toNatClampNeg).toInt ∧ (M84.1 3 x14.toNatClampNeg).toInt < 16 := by rw [eM84, ui_ne (by decide)]; exact h117
                    refine lv_aload_n X.1 X.2.1 dX9_rank_125 rfl (lv_at hl 1 rfl) ?_
                    refine gF X hw (by decide) hm_MO rfl (by decide +kernel) 1 (by decide) (ref := "RankBenchModel") rfl (by decide +kernel) rfl dX9_rank_126 ?_
                    refine lv_bipush (v := 16) X.1 X.2.1 dX9_rank_129 (by decide) ?_
                    refine lv_iload X.1 X.2.1 dX9_rank_131 (lv_at hl 0 rfl) ?_
                    refine lv_imul X.1 X.2.1 dX9_rank_133 ?_
                    refine lv_aload_n X.1 X.2.1 dX9_rank_134 rfl (lv_at hl 1 rfl) ?_
                    refine gF X hw (by decide) hm_MO rfl (by decide +kernel) 2 (by decide) (ref := "RankBenchModel") rfl (by decide +kernel) rfl dX9_rank_135 ?_
                    refine lv_iload X.1 X.2.1 dX9_rank_138 (lv_at hl 0 rfl) ?_
                    refine aI X hw (by decide) hm_ms (vp_in_iff.mpr ⟨by omega, by omega⟩) dX9_rank_140 ?_
                    refine lv_iadd X.1 X.2.1 dX9_rank_141 ?_
                    refine lv_iload_n X.1 X.2.1 dX9_rank_142 rfl (lv_at hl 4 rfl) ?_
                    have ix143 := ix16 (k := x14) (i := M84.1 3 x14.toNatClampNeg) (by omega) h125
                    refine sI X hw hS (ui M84 2 ((16 * x14) + (M84.1 3 x14.toNatClampNeg)).toNatClampNeg a3) (by decide) hm_mr (vp_in_iff.mpr ⟨by omega, by omega⟩) (by rw [hm_mr, ui_same]) (fun j hj => ui_ne hj) (fun j hj => rfl) (okM_ui hw.2.2.2.2 (Or.inr (Or.inr (Or.inl ⟨Or.inl rfl, by omega, by omega⟩)))) dX9_rank_143 (fun H locs hw hS => ?_)
                    refine tpb (fun M85 eM85 => ?_)
                    rw [← eM85] at hw
                    have h144 : 0 ≤ (M85.1 3 x14.toNatClampNeg).toInt ∧ (M85.1 3 x14.toNatClampNeg).toInt < 16 := by rw [eM85, ui_ne (by decide)]; exact h125
                    refine lv_aload_n X.1 X.2.1 dX9_rank_144 rfl (lv_at hl 1 rfl) ?_
                    refine gF X hw (by decide) hm_MO rfl (by decide +kernel) 2 (by decide) (ref := "RankBenchModel") rfl (by decide +kernel) rfl dX9_rank_145 ?_
                    refine lv_iload X.1 X.2.1 dX9_rank_148 (lv_at hl 0 rfl) ?_
                    refine lv_dup2_11 X.1 X.2.1 dX9_rank_150 rfl rfl ?_
                    refine aI X hw (by decide) hm_ms (vp_in_iff.mpr ⟨by omega, by omega⟩) dX9_rank_151 ?_
                    refine lv_iconst (v := 1) X.1 X.2.1 dX9_rank_152 (by decide) ?_
                    refine lv_iadd X.1 X.2.1 dX9_rank_153 ?_
                    refine tni (fun x86 ex86 => ?_)
                    have q154 := inc_sp (M85.1 3 x14.toNatClampNeg)
                    rw [← ex86] at q154
                    refine sI X hw hS (ui M85 3 x14.toNatClampNeg x86) (by decide) hm_ms (vp_in_iff.mpr ⟨by omega, by omega⟩) (by rw [hm_ms, ui_same]) (fun j hj => ui_ne hj) (fun j hj => rfl) (okM_ui hw.2.2.2.2 (Or.inr (Or.inl ⟨rfl, by first | decide | omega, by first | decide | omega⟩))) dX9_rank_154 (fun H locs hw hS => ?_)
                    refine tpb (fun M87 eM87 => ?_)
                    rw [← eM87] at hw
                    refine lv_aload_n X.1 X.2.1 dX9_rank_155 rfl (lv_at hl 1 rfl) ?_
                    refine gF X hw (by decide) hm_MO rfl (by decide +kernel) 2 (by decide) (ref := "RankBenchModel") rfl (by decide +kernel) rfl dX9_rank_156 ?_
                    refine lv_iload X.1 X.2.1 dX9_rank_159 (lv_at hl 0 rfl) ?_
                    refine aI X hw (by decide) hm_ms (vp_in_iff.mpr ⟨by omega, by omega⟩) dX9_rank_161 ?_
                    exact rQ X hr hlk hw hS dX9_rank_162
                · skip
                  have t88 : (M.1 3 x14.toNatClampNeg).toInt = 16 := i_eq c72
                  refine lv_bipush (v := (-4)) X.1 X.2.1 dX9_rank_86 (by decide) ?_
                  exact rQ X hr hlk hw hS dX9_rank_88
            · skip
              have t89 : r52.toInt < (M.1 3 x14.toNatClampNeg).toInt := i_nle c53
              refine lv_bipush (v := (-3)) X.1 X.2.1 dX9_rank_61 (by decide) ?_
              exact rQ X hr hlk hw hS dX9_rank_63
        · skip
          have t90 : 23 < a3.toInt := i_nle c12
          refine lv_iconst (v := (-1)) X.1 X.2.1 dX9_rank_24 (by decide) ?_
          exact rQ X hr hlk hw hS dX9_rank_25

def f_X9_empty (M : Mem) (a1 : Int32) (a2 : Int32) : Int32 × Mem := bnd (f_X9_isRanker a1) (fun r1 => if r1 = 0 then ((-1), M) else (bnd (f_X9_isQuestion a2) (fun r5 => if r5 = 0 then ((-1), M) else (bnd ((8 * a1) + a2) (fun x8 => if (M.1 4 x8.toNatClampNeg) = 0 then (bnd (ui M 4 x8.toNatClampNeg (vp_nar .boolean 1)) (fun M11 => bnd (ui M11 3 x8.toNatClampNeg 0) (fun M12 => (0, M12)))) else (bnd (M.1 3 x8.toNatClampNeg) (fun x14 => bnd (ui M 4 x8.toNatClampNeg (vp_nar .boolean 1)) (fun M15 => bnd (ui M15 3 x8.toNatClampNeg 0) (fun M16 => (x14, M16))))))))))
set_option maxRecDepth 100000 in
set_option maxHeartbeats 4000000 in
theorem c_X9_empty (l : Launch) (G : En) (A : Nat → Prop) (M : Mem) (a1 : Int32) (a2 : Int32) : WrI false l yX9_empty wsX9_empty ({ frames := 1, cells := 0, slots := 0, locals := 20 }) G A M [.ref (G.2.2 0), .int a1, .int a2] (f_X9_empty M a1 a2) := by
  refine WrI.of (cc := cX9_empty) (maxL := 5) (ret := (some .int)) (own := RX9) (by decide) rfl rfl (Nat.le_of_ble_eq_true rfl) ?_
  intro p e s m below meth c X hw hr hlk ls hl hS
  have hl : lv_has ls 5 [(0, .ref (G.2.2 0)), (1, .int a1), (2, .int a2)] := hl
  unfold f_X9_empty
  refine lv_iload_n X.1 X.2.1 dX9_empty_0 rfl (lv_at hl 1 rfl) ?_
  refine cSI [.int a1] [] X hw (c_X9_isRanker l G A M a1) (va_cwS 1 X.2.2.2.2 gX9_empty_X9_isRanker rfl rfl rfl (by decide +kernel) ⟨Nat.le_of_ble_eq_true rfl, Nat.le_of_ble_eq_true rfl⟩)  rfl rfl hl.1 (Nat.le_of_ble_eq_true rfl) dX9_empty_1 ?_
  refine tni (fun r1 er1 => ?_)
  have zr1 := rk_or er1
  refine bz_eq (tgt := 14) X dX9_empty_4 (by decide) (fun c2 => ?_) (fun c2 => ?_)
  · skip
    have t3 : r1.toInt = 0 := i_eq c2
    refine lv_iconst (v := (-1)) X.1 X.2.1 dX9_empty_14 (by decide) ?_
    exact rQ X hr hlk hw hS dX9_empty_15
  · skip
    have t4 : ¬ r1.toInt = 0 := i_ne c2
    refine lv_iload_n X.1 X.2.1 dX9_empty_7 rfl (lv_at hl 2 rfl) ?_
    refine cSI [.int a2] [] X hw (c_X9_isQuestion l G A M a2) (va_cwS 1 X.2.2.2.2 gX9_empty_X9_isQuestion rfl rfl rfl (by decide +kernel) ⟨Nat.le_of_ble_eq_true rfl, Nat.le_of_ble_eq_true rfl⟩)  rfl rfl hl.1 (Nat.le_of_ble_eq_true rfl) dX9_empty_8 ?_
    refine tni (fun r5 er5 => ?_)
    have zr5 := q_or er5
    refine bz_ne (tgt := 16) X dX9_empty_11 (by decide) (fun c6 => ?_) (fun c6 => ?_)
    · skip
      have t7 : ¬ r5.toInt = 0 := i_ne c6
      refine lv_bipush (v := 8) X.1 X.2.1 dX9_empty_16 (by decide) ?_
      refine lv_iload_n X.1 X.2.1 dX9_empty_18 rfl (lv_at hl 1 rfl) ?_
      refine lv_imul X.1 X.2.1 dX9_empty_19 ?_
      refine lv_iload_n X.1 X.2.1 dX9_empty_20 rfl (lv_at hl 2 rfl) ?_
      refine lv_iadd X.1 X.2.1 dX9_empty_21 ?_
      refine tni (fun x8 ex8 => ?_)
      have ix9 := ix8 (r := a1) (q := a2) (by omega) (by omega)
      rw [← ex8] at ix9
      refine lv_istore_n (lv' := [(3, .int x8), (0, .ref (G.2.2 0)), (1, .int a1), (2, .int a2)]) X.1 X.2.1 dX9_empty_22 rfl hl (by decide) rfl (fun ls hl => ?_)
      refine lv_aload_n X.1 X.2.1 dX9_empty_23 rfl (lv_at hl 1 rfl) ?_
      refine gF X hw (by decide) hm_MO rfl (by decide +kernel) 3 (by decide) (ref := "RankBenchModel") rfl (by decide +kernel) rfl dX9_empty_24 ?_
      refine lv_iload_n X.1 X.2.1 dX9_empty_27 rfl (lv_at hl 0 rfl) ?_
      refine aZ X hw (by decide) hm_mt (vp_in_iff.mpr ⟨by omega, by omega⟩) dX9_empty_28 ?_
      refine bz_eq (tgt := 41) X dX9_empty_29 (by decide) (fun c9 => ?_) (fun c9 => ?_)
      · skip
        have t10 : (M.1 4 x8.toNatClampNeg).toInt = 0 := i_eq c9
        refine lv_iconst (v := 0) X.1 X.2.1 dX9_empty_41 (by decide) ?_
        refine lv_istore (lv' := [(4, .int 0), (3, .int x8), (0, .ref (G.2.2 0)), (1, .int a1), (2, .int a2)]) X.1 X.2.1 dX9_empty_42 hl (by decide) rfl (fun ls hl => ?_)
        refine lv_aload_n X.1 X.2.1 dX9_empty_44 rfl (lv_at hl 2 rfl) ?_
        refine gF X hw (by decide) hm_MO rfl (by decide +kernel) 3 (by decide) (ref := "RankBenchModel") rfl (by decide +kernel) rfl dX9_empty_45 ?_
        refine lv_iload_n X.1 X.2.1 dX9_empty_48 rfl (lv_at hl 1 rfl) ?_
        refine lv_iconst (v := 1) X.1 X.2.1 dX9_empty_49 (by decide) ?_
        refine sZ X hw hS (ui M 4 x8.toNatClampNeg (vp_nar .boolean 1)) (by decide) hm_mt (vp_in_iff.mpr ⟨by omega, by omega⟩) (by rw [hm_mt, ui_same]) (fun j hj => ui_ne hj) (fun j hj => rfl) (okM_ui hw.2.2.2.2 (Or.inl (by decide))) dX9_empty_50 (fun H locs hw hS => ?_)
        refine tpb (fun M11 eM11 => ?_)
        rw [← eM11] at hw
        refine lv_aload_n X.1 X.2.1 dX9_empty_51 rfl (lv_at hl 2 rfl) ?_
        refine gF X hw (by decide) hm_MO rfl (by decide +kernel) 2 (by decide) (ref := "RankBenchModel") rfl (by decide +kernel) rfl dX9_empty_52 ?_
        refine lv_iload_n X.1 X.2.1 dX9_empty_55 rfl (lv_at hl 1 rfl) ?_
        refine lv_iconst (v := 0) X.1 X.2.1 dX9_empty_56 (by decide) ?_
        refine sI X hw hS (ui M11 3 x8.toNatClampNeg 0) (by decide) hm_ms (vp_in_iff.mpr ⟨by omega, by omega⟩) (by rw [hm_ms, ui_same]) (fun j hj => ui_ne hj) (fun j hj => rfl) (okM_ui hw.2.2.2.2 (Or.inr (Or.inl ⟨rfl, by first | decide | omega, by first | decide | omega⟩))) dX9_empty_57 (fun H locs hw hS => ?_)
        refine tpb (fun M12 eM12 => ?_)
        rw [← eM12] at hw
        refine lv_iload X.1 X.2.1 dX9_empty_58 (lv_at hl 0 rfl) ?_
        exact rQ X hr hlk hw hS dX9_empty_60
      · skip
        have t13 : ¬ (M.1 4 x8.toNatClampNeg).toInt = 0 := i_ne c9
        refine lv_aload_n X.1 X.2.1 dX9_empty_32 rfl (lv_at hl 1 rfl) ?_
        refine gF X hw (by decide) hm_MO rfl (by decide +kernel) 2 (by decide) (ref := "RankBenchModel") rfl (by decide +kernel) rfl dX9_empty_33 ?_
        refine lv_iload_n X.1 X.2.1 dX9_empty_36 rfl (lv_at hl 0 rfl) ?_
        refine aI X hw (by decide) hm_ms (vp_in_iff.mpr ⟨by omega, by omega⟩) dX9_empty_37 ?_
        refine lv_goto (tgt := 42) X.1 X.2.1 dX9_empty_38 (by decide) ?_
        refine tni (fun x14 ex14 => ?_)
        refine lv_istore (lv' := [(4, .int x14), (3, .int x8), (0, .ref (G.2.2 0)), (1, .int a1), (2, .int a2)]) X.1 X.2.1 dX9_empty_42 hl (by decide) rfl (fun ls hl => ?_)
        refine lv_aload_n X.1 X.2.1 dX9_empty_44 rfl (lv_at hl 2 rfl) ?_
        refine gF X hw (by decide) hm_MO rfl (by decide +kernel) 3 (by decide) (ref := "RankBenchModel") rfl (by decide +kernel) rfl dX9_empty_45 ?_
        refine lv_iload_n X.1 X.2.1 dX9_empty_48 rfl (lv_at hl 1 rfl) ?_
        refine lv_iconst (v := 1) X.1 X.2.1 dX9_empty_49 (by decide) ?_
        refine sZ X hw hS (ui M 4 x8.toNatClampNeg (vp_nar .boolean 1)) (by decide) hm_mt (vp_in_iff.mpr ⟨by omega, by omega⟩) (by rw [hm_mt, ui_same]) (fun j hj => ui_ne hj) (fun j hj => rfl) (okM_ui hw.2.2.2.2 (Or.inl (by decide))) dX9_empty_50 (fun H locs hw hS => ?_)
        refine tpb (fun M15 eM15 => ?_)
        rw [← eM15] at hw
        refine lv_aload_n X.1 X.2.1 dX9_empty_51 rfl (lv_at hl 2 rfl) ?_
        refine gF X hw (by decide) hm_MO rfl (by decide +kernel) 2 (by decide) (ref := "RankBenchModel") rfl (by decide +kernel) rfl dX9_empty_52 ?_
        refine lv_iload_n X.1 X.2.1 dX9_empty_55 rfl (lv_at hl 1 rfl) ?_
        refine lv_iconst (v := 0) X.1 X.2.1 dX9_empty_56 (by decide) ?_
        refine sI X hw hS (ui M15 3 x8.toNatClampNeg 0) (by decide) hm_ms (vp_in_iff.mpr ⟨by omega, by omega⟩) (by rw [hm_ms, ui_same]) (fun j hj => ui_ne hj) (fun j hj => rfl) (okM_ui hw.2.2.2.2 (Or.inr (Or.inl ⟨rfl, by first | decide | omega, by first | decide | omega⟩))) dX9_empty_57 (fun H locs hw hS => ?_)
        refine tpb (fun M16 eM16 => ?_)
        rw [← eM16] at hw
        refine lv_iload X.1 X.2.1 dX9_empty_58 (lv_at hl 0 rfl) ?_
        exact rQ X hr hlk hw hS dX9_empty_60
    · skip
      have t17 : r5.toInt = 0 := i_eq c6
      refine lv_iconst (v := (-1)) X.1 X.2.1 dX9_empty_14 (by decide) ?_
      exact rQ X hr hlk hw hS dX9_empty_15

def f_X9_drop (M : Mem) (a1 : Int32) (a2 : Int32) : Int32 × Mem := bnd (f_X9_isRow M a1 a2) (fun r1 => if r1 = 0 then ((-1), M) else (bnd (ui M 4 ((8 * a1) + a2).toNatClampNeg (vp_nar .boolean 0)) (fun M4 => bnd (ui M4 3 ((8 * a1) + a2).toNatClampNeg 0) (fun M5 => (1, M5)))))
set_option maxRecDepth 100000 in
set_option maxHeartbeats 4000000 in
theorem c_X9_drop (l : Launch) (G : En) (A : Nat → Prop) (M : Mem) (a1 : Int32) (a2 : Int32) : WrI false l yX9_drop wsX9_drop ({ frames := 2, cells := 0, slots := 0, locals := 42 }) G A M [.ref (G.2.2 0), .int a1, .int a2] (f_X9_drop M a1 a2) := by
  refine WrI.of (cc := cX9_drop) (maxL := 3) (ret := (some .int)) (own := RX9) (by decide) rfl rfl (Nat.le_of_ble_eq_true rfl) ?_
  intro p e s m below meth c X hw hr hlk ls hl hS
  have hl : lv_has ls 3 [(0, .ref (G.2.2 0)), (1, .int a1), (2, .int a2)] := hl
  unfold f_X9_drop
  refine lv_aload_n X.1 X.2.1 dX9_drop_0 rfl (lv_at hl 0 rfl) ?_
  refine lv_iload_n X.1 X.2.1 dX9_drop_1 rfl (lv_at hl 1 rfl) ?_
  refine lv_iload_n X.1 X.2.1 dX9_drop_2 rfl (lv_at hl 2 rfl) ?_
  refine cVI [.int a1, .int a2] [] X hw (c_X9_isRow l G A M a1 a2) (cwV 2 X.2.2.2.2 gX9_drop_X9_isRow rfl rfl rfl (by decide +kernel) ⟨Nat.le_of_ble_eq_true rfl, Nat.le_of_ble_eq_true rfl⟩) (hw.recv (by decide) hm_MO rfl) rfl rfl hl.1 (Nat.le_of_ble_eq_true rfl) dX9_drop_3 ?_
  refine tni (fun r1 er1 => ?_)
  have zr1 := row_or er1
  refine bz_ne (tgt := 11) X dX9_drop_6 (by decide) (fun c2 => ?_) (fun c2 => ?_)
  · skip
    have t3 : ¬ r1.toInt = 0 := i_ne c2
    refine lv_aload_n X.1 X.2.1 dX9_drop_11 rfl (lv_at hl 0 rfl) ?_
    refine gF X hw (by decide) hm_MO rfl (by decide +kernel) 3 (by decide) (ref := "RankBenchModel") rfl (by decide +kernel) rfl dX9_drop_12 ?_
    refine lv_bipush (v := 8) X.1 X.2.1 dX9_drop_15 (by decide) ?_
    refine lv_iload_n X.1 X.2.1 dX9_drop_17 rfl (lv_at hl 1 rfl) ?_
    refine lv_imul X.1 X.2.1 dX9_drop_18 ?_
    refine lv_iload_n X.1 X.2.1 dX9_drop_19 rfl (lv_at hl 2 rfl) ?_
    refine lv_iadd X.1 X.2.1 dX9_drop_20 ?_
    refine lv_iconst (v := 0) X.1 X.2.1 dX9_drop_21 (by decide) ?_
    have ix9 := ix8 (r := a1) (q := a2) (by omega) (by omega)
    refine sZ X hw hS (ui M 4 ((8 * a1) + a2).toNatClampNeg (vp_nar .boolean 0)) (by decide) hm_mt (vp_in_iff.mpr ⟨by omega, by omega⟩) (by rw [hm_mt, ui_same]) (fun j hj => ui_ne hj) (fun j hj => rfl) (okM_ui hw.2.2.2.2 (Or.inl (by decide))) dX9_drop_22 (fun H locs hw hS => ?_)
    refine tpb (fun M4 eM4 => ?_)
    rw [← eM4] at hw
    refine lv_aload_n X.1 X.2.1 dX9_drop_23 rfl (lv_at hl 0 rfl) ?_
    refine gF X hw (by decide) hm_MO rfl (by decide +kernel) 2 (by decide) (ref := "RankBenchModel") rfl (by decide +kernel) rfl dX9_drop_24 ?_
    refine lv_bipush (v := 8) X.1 X.2.1 dX9_drop_27 (by decide) ?_
    refine lv_iload_n X.1 X.2.1 dX9_drop_29 rfl (lv_at hl 1 rfl) ?_
    refine lv_imul X.1 X.2.1 dX9_drop_30 ?_
    refine lv_iload_n X.1 X.2.1 dX9_drop_31 rfl (lv_at hl 2 rfl) ?_
    refine lv_iadd X.1 X.2.1 dX9_drop_32 ?_
    refine lv_iconst (v := 0) X.1 X.2.1 dX9_drop_33 (by decide) ?_
    have ix9 := ix8 (r := a1) (q := a2) (by omega) (by omega)
    refine sI X hw hS (ui M4 3 ((8 * a1) + a2).toNatClampNeg 0) (by decide) hm_ms (vp_in_iff.mpr ⟨by omega, by omega⟩) (by rw [hm_ms, ui_same]) (fun j hj => ui_ne hj) (fun j hj => rfl) (okM_ui hw.2.2.2.2 (Or.inr (Or.inl ⟨rfl, by first | decide | omega, by first | decide | omega⟩))) dX9_drop_34 (fun H locs hw hS => ?_)
    refine tpb (fun M5 eM5 => ?_)
    rw [← eM5] at hw
    refine lv_iconst (v := 1) X.1 X.2.1 dX9_drop_35 (by decide) ?_
    exact rQ X hr hlk hw hS dX9_drop_36
  · skip
    have t6 : r1.toInt = 0 := i_eq c2
    refine lv_iconst (v := (-1)) X.1 X.2.1 dX9_drop_9 (by decide) ?_
    exact rQ X hr hlk hw hS dX9_drop_10

def f_X9_at (M : Mem) (a1 : Int32) (a2 : Int32) (a3 : Int32) : Int32 := bnd (f_X9_isRow M a1 a2) (fun r1 => if r1 = 0 then (-1) else (if a3 < 1 then (-2) else (bnd (f_X9_size M a1 a2) (fun r7 => if a3 ≤ r7 then (bnd (f_X9_doc M a1 a2 (a3 - 1)) (fun r10 => r10)) else (-2)))))
set_option maxRecDepth 100000 in
set_option maxHeartbeats 4000000 in
theorem c_X9_at (l : Launch) (G : En) (A : Nat → Prop) (M : Mem) (a1 : Int32) (a2 : Int32) (a3 : Int32) : RdI false l yX9_at wsX9_at ({ frames := 2, cells := 0, slots := 0, locals := 42 }) G A M [.ref (G.2.2 0), .int a1, .int a2, .int a3] (f_X9_at M a1 a2 a3) := by
  refine RdI.of (cc := cX9_at) (maxL := 4) (ret := (some .int)) (own := RX9) (by decide) rfl rfl (Nat.le_of_ble_eq_true rfl) ?_
  intro p e s m below meth c X hw hr hlk ls hl
  have hl : lv_has ls 4 [(0, .ref (G.2.2 0)), (1, .int a1), (2, .int a2), (3, .int a3)] := hl
  unfold f_X9_at
  refine lv_aload_n X.1 X.2.1 dX9_at_0 rfl (lv_at hl 0 rfl) ?_
  refine lv_iload_n X.1 X.2.1 dX9_at_1 rfl (lv_at hl 1 rfl) ?_
  refine lv_iload_n X.1 X.2.1 dX9_at_2 rfl (lv_at hl 2 rfl) ?_
  refine cVI [.int a1, .int a2] [] X hw (c_X9_isRow l G A M a1 a2) (cwV 2 X.2.2.2.2 gX9_at_X9_isRow rfl rfl rfl (by decide +kernel) ⟨Nat.le_of_ble_eq_true rfl, Nat.le_of_ble_eq_true rfl⟩) (hw.recv (by decide) hm_MO rfl) rfl rfl hl.1 (Nat.le_of_ble_eq_true rfl) dX9_at_3 ?_
  refine tni (fun r1 er1 => ?_)
  have zr1 := row_or er1
  refine bz_ne (tgt := 11) X dX9_at_6 (by decide) (fun c2 => ?_) (fun c2 => ?_)
  · skip
    have t3 : ¬ r1.toInt = 0 := i_ne c2
    refine lv_iload_n X.1 X.2.1 dX9_at_11 rfl (lv_at hl 3 rfl) ?_
    refine lv_iconst (v := 1) X.1 X.2.1 dX9_at_12 (by decide) ?_
    refine bi_lt (tgt := 26) X dX9_at_13 (by decide) (fun c4 => ?_) (fun c4 => ?_)
    · skip
      have t5 : a3.toInt < 1 := i_lt c4
      refine lv_bipush (v := (-2)) X.1 X.2.1 dX9_at_26 (by decide) ?_
      refine lv_goto (tgt := 40) X.1 X.2.1 dX9_at_28 (by decide) ?_
      exact rI X hr hlk dX9_at_40
    · skip
      have t6 : 1 ≤ a3.toInt := i_nlt c4
      refine lv_iload_n X.1 X.2.1 dX9_at_16 rfl (lv_at hl 3 rfl) ?_
      refine lv_aload_n X.1 X.2.1 dX9_at_17 rfl (lv_at hl 0 rfl) ?_
      refine lv_iload_n X.1 X.2.1 dX9_at_18 rfl (lv_at hl 1 rfl) ?_
      refine lv_iload_n X.1 X.2.1 dX9_at_19 rfl (lv_at hl 2 rfl) ?_
      refine cVI [.int a1, .int a2] [.int a3] X hw (c_X9_size l G A M a1 a2 (by omega) (by omega)) (cwV 2 X.2.2.2.2 gX9_at_X9_size rfl rfl rfl (by decide +kernel) ⟨Nat.le_of_ble_eq_true rfl, Nat.le_of_ble_eq_true rfl⟩) (hw.recv (by decide) hm_MO rfl) rfl rfl hl.1 (Nat.le_of_ble_eq_true rfl) dX9_at_20 ?_
      refine tni (fun r7 er7 => ?_)
      have zr7 := g_X9_size hw.2.2.2.2 er7 (by omega) (by omega)
      refine bi_le (tgt := 31) X dX9_at_23 (by decide) (fun c8 => ?_) (fun c8 => ?_)
      · skip
        have t9 : a3.toInt ≤ r7.toInt := i_le c8
        refine lv_aload_n X.1 X.2.1 dX9_at_31 rfl (lv_at hl 0 rfl) ?_
        refine lv_iload_n X.1 X.2.1 dX9_at_32 rfl (lv_at hl 1 rfl) ?_
        refine lv_iload_n X.1 X.2.1 dX9_at_33 rfl (lv_at hl 2 rfl) ?_
        refine lv_iload_n X.1 X.2.1 dX9_at_34 rfl (lv_at hl 3 rfl) ?_
        refine lv_iconst (v := 1) X.1 X.2.1 dX9_at_35 (by decide) ?_
        refine lv_isub X.1 X.2.1 dX9_at_36 ?_
        have q37 := dec_sp a3
        refine cVI [.int a1, .int a2, .int (a3 - 1)] [] X hw (c_X9_doc l G A M a1 a2 (a3 - 1) (by omega) (by omega) (by omega)) (cwV 3 X.2.2.2.2 gX9_at_X9_doc rfl rfl rfl (by decide +kernel) ⟨Nat.le_of_ble_eq_true rfl, Nat.le_of_ble_eq_true rfl⟩) (hw.recv (by decide) hm_MO rfl) rfl rfl hl.1 (Nat.le_of_ble_eq_true rfl) dX9_at_37 ?_
        refine tni (fun r10 er10 => ?_)
        have zr10 := g_X9_doc hw.2.2.2.2 er10 (by omega) (by omega) (by omega)
        exact rI X hr hlk dX9_at_40
      · skip
        have t11 : r7.toInt < a3.toInt := i_nle c8
        refine lv_bipush (v := (-2)) X.1 X.2.1 dX9_at_26 (by decide) ?_
        refine lv_goto (tgt := 40) X.1 X.2.1 dX9_at_28 (by decide) ?_
        exact rI X hr hlk dX9_at_40
  · skip
    have t12 : r1.toInt = 0 := i_eq c2
    refine lv_iconst (v := (-1)) X.1 X.2.1 dX9_at_9 (by decide) ?_
    exact rI X hr hlk dX9_at_10

def f_X9_graded_6 : Nat → Mem → Int32 → Int32 → Int32 → Int32 → Int32 → Int32
  | 0, M, _, _, _, _, _ => 0
  | n1 + 1, M, v1, v2, v3, v4, v5 => if (24 : Int32) ≤ v5 then v4 else (bnd (f_X9_gradeOf M v1 v5) (fun r4 => if r4 < v2 then (bnd (v4 + 0) (fun x7 => f_X9_graded_6 n1 M v1 v2 v3 x7 (v5 + 1))) else (bnd (f_X9_gradeOf M v1 v5) (fun r10 => if v3 < r10 then (bnd (v4 + 0) (fun x13 => f_X9_graded_6 n1 M v1 v2 v3 x13 (v5 + 1))) else (bnd (v4 + 1) (fun x16 => f_X9_graded_6 n1 M v1 v2 v3 x16 (v5 + 1)))))))
def f_X9_graded (M : Mem) (a1 : Int32) (a2 : Int32) (a3 : Int32) : Int32 := f_X9_graded_6 25 M a1 a2 a3 0 0
set_option maxRecDepth 100000 in
set_option maxHeartbeats 4000000 in
theorem c_X9_graded (l : Launch) (G : En) (A : Nat → Prop) (M : Mem) (a1 : Int32) (a2 : Int32) (a3 : Int32) (hqa : 0 ≤ a1.toInt ∧ a1.toInt < 8) : RdI false l yX9_graded wsX9_graded ({ frames := 1, cells := 0, slots := 0, locals := 22 }) G A M [.ref (G.2.2 0), .int a1, .int a2, .int a3] (f_X9_graded M a1 a2 a3) := by
  refine RdI.of (cc := cX9_graded) (maxL := 6) (ret := (some .int)) (own := RX9) (by decide) rfl rfl (Nat.le_of_ble_eq_true rfl) ?_
  intro p e s m below meth c X hw hr hlk ls hl
  have hl : lv_has ls 6 [(0, .ref (G.2.2 0)), (1, .int a1), (2, .int a2), (3, .int a3)] := hl
  unfold f_X9_graded
  refine lv_iconst (v := 0) X.1 X.2.1 dX9_graded_0 (by decide) ?_
  refine lv_istore (lv' := [(4, .int 0), (0, .ref (G.2.2 0)), (1, .int a1), (2, .int a2), (3, .int a3)]) X.1 X.2.1 dX9_graded_1 hl (by decide) rfl (fun ls hl => ?_)
  refine lv_iconst (v := 0) X.1 X.2.1 dX9_graded_3 (by decide) ?_
  refine lv_istore (lv' := [(5, .int 0), (4, .int 0), (0, .ref (G.2.2 0)), (1, .int a1), (2, .int a2), (3, .int a3)]) X.1 X.2.1 dX9_graded_4 hl (by decide) rfl (fun ls hl => ?_)
  have L1 : ∀ (n1 : Nat) (v1 : Int32) (v2 : Int32) (v3 : Int32) (v4 : Int32) (v5 : Int32)  (hm1 : (24 - v5.toInt : Int).toNat < n1) (hi1_0 : 0 ≤ v5.toInt) (hi1_1 : 0 ≤ v1.toInt ∧ v1.toInt < 8), ∀ ls : Array Slot, lv_has ls 6 [(0, .ref (G.2.2 0)), (1, .int v1), (2, .int v2), (3, .int v3), (4, .int v4), (5, .int v5)] → W p l e ({ frames := 1, cells := 0, slots := 0, locals := 22 } : Room) s m ([.ref (G.2.2 0), .int a1, .int a2, .int a3] : List Value).toArray below meth c s.heap [] 0 0 (TSi below ([.ref (G.2.2 0), .int a1, .int a2, .int a3] : List Value).toArray s (f_X9_graded_6 n1 M v1 v2 v3 v4 v5)) (F0 m 6 ls []) := by
    intro n1
    induction n1 with
    | zero => intro v1 v2 v3 v4 v5 hm1 hi1_0 hi1_1; exact absurd hm1 (by omega)
    | succ n1 ih1 =>
      intro v1 v2 v3 v4 v5 hm1 hi1_0 hi1_1 ls hl
      rw [f_X9_graded_6]
      refine lv_iload X.1 X.2.1 dX9_graded_6 (lv_at hl 5 rfl) ?_
      refine lv_bipush (v := 24) X.1 X.2.1 dX9_graded_8 (by decide) ?_
      refine bi_ge (tgt := 51) X dX9_graded_10 (by decide) (fun c1 => ?_) (fun c1 => ?_)
      · skip
        have t2 : 24 ≤ v5.toInt := i_le c1
        refine lv_iload X.1 X.2.1 dX9_graded_51 (lv_at hl 4 rfl) ?_
        exact rI X hr hlk dX9_graded_53
      · skip
        have t3 : v5.toInt < 24 := i_nle c1
        refine lv_iload X.1 X.2.1 dX9_graded_13 (lv_at hl 4 rfl) ?_
        refine lv_aload_n X.1 X.2.1 dX9_graded_15 rfl (lv_at hl 0 rfl) ?_
        refine lv_iload_n X.1 X.2.1 dX9_graded_16 rfl (lv_at hl 1 rfl) ?_
        refine lv_iload X.1 X.2.1 dX9_graded_17 (lv_at hl 5 rfl) ?_
        refine cVI [.int v1, .int v5] [.int v4] X hw (c_X9_gradeOf l G A M v1 v5 (by omega) (by omega)) (cwV 2 X.2.2.2.2 gX9_graded_X9_gradeOf rfl rfl rfl (by decide +kernel) ⟨Nat.le_of_ble_eq_true rfl, Nat.le_of_ble_eq_true rfl⟩) (hw.recv (by decide) hm_MO rfl) rfl rfl hl.1 (Nat.le_of_ble_eq_true rfl) dX9_graded_19 ?_
        refine tni (fun r4 er4 => ?_)
        refine lv_iload_n X.1 X.2.1 dX9_graded_22 rfl (lv_at hl 2 rfl) ?_
        refine bi_lt (tgt := 41) X dX9_graded_23 (by decide) (fun c5 => ?_) (fun c5 => ?_)
        · skip
          have t6 : r4.toInt < v2.toInt := i_lt c5
          refine lv_iconst (v := 0) X.1 X.2.1 dX9_graded_41 (by decide) ?_
          refine lv_iadd X.1 X.2.1 dX9_graded_42 ?_
          refine tni (fun x7 ex7 => ?_)
          refine lv_istore (lv' := [(4, .int x7), (0, .ref (G.2.2 0)), (1, .int v1), (2, .int v2), (3, .int v3), (5, .int v5)]) X.1 X.2.1 dX9_graded_43 hl (by decide) rfl (fun ls hl => ?_)
          refine lv_iinc (v := (v5 + 1)) (lv' := [(5, .int (v5 + 1)), (4, .int x7), (0, .ref (G.2.2 0)), (1, .int v1), (2, .int v2), (3, .int v3)]) X.1 X.2.1 dX9_graded_45 hl (k := 5) rfl rfl (by decide) rfl (fun ls hl => ?_)
          refine lv_goto (tgt := 6) X.1 X.2.1 dX9_graded_48 (by decide) ?_
          have q8 := inc_sp v5
          exact ih1 v1 v2 v3 x7 (v5 + 1) (by omega) (by omega) (by omega)  ls (lv_sub hl [2, 3, 4, 5, 1, 0] rfl)
        · skip
          have t9 : v2.toInt ≤ r4.toInt := i_nlt c5
          refine lv_aload_n X.1 X.2.1 dX9_graded_26 rfl (lv_at hl 0 rfl) ?_
          refine lv_iload_n X.1 X.2.1 dX9_graded_27 rfl (lv_at hl 1 rfl) ?_
          refine lv_iload X.1 X.2.1 dX9_graded_28 (lv_at hl 5 rfl) ?_
          refine cVI [.int v1, .int v5] [.int v4] X hw (c_X9_gradeOf l G A M v1 v5 (by omega) (by omega)) (cwV 2 X.2.2.2.2 gX9_graded_X9_gradeOf rfl rfl rfl (by decide +kernel) ⟨Nat.le_of_ble_eq_true rfl, Nat.le_of_ble_eq_true rfl⟩) (hw.recv (by decide) hm_MO rfl) rfl rfl hl.1 (Nat.le_of_ble_eq_true rfl) dX9_graded_30 ?_
          refine tni (fun r10 er10 => ?_)
          refine lv_iload_n X.1 X.2.1 dX9_graded_33 rfl (lv_at hl 3 rfl) ?_
          refine bi_gt (tgt := 41) X dX9_graded_34 (by decide) (fun c11 => ?_) (fun c11 => ?_)
          · skip
            have t12 : v3.toInt < r10.toInt := i_lt c11
            refine lv_iconst (v := 0) X.1 X.2.1 dX9_graded_41 (by decide) ?_
            refine lv_iadd X.1 X.2.1 dX9_graded_42 ?_
            refine tni (fun x13 ex13 => ?_)
            refine lv_istore (lv' := [(4, .int x13), (0, .ref (G.2.2 0)), (1, .int v1), (2, .int v2), (3, .int v3), (5, .int v5)]) X.1 X.2.1 dX9_graded_43 hl (by decide) rfl (fun ls hl => ?_)
            refine lv_iinc (v := (v5 + 1)) (lv' := [(5, .int (v5 + 1)), (4, .int x13), (0, .ref (G.2.2 0)), (1, .int v1), (2, .int v2), (3, .int v3)]) X.1 X.2.1 dX9_graded_45 hl (k := 5) rfl rfl (by decide) rfl (fun ls hl => ?_)
            refine lv_goto (tgt := 6) X.1 X.2.1 dX9_graded_48 (by decide) ?_
            have q14 := inc_sp v5
            exact ih1 v1 v2 v3 x13 (v5 + 1) (by omega) (by omega) (by omega)  ls (lv_sub hl [2, 3, 4, 5, 1, 0] rfl)
          · skip
            have t15 : r10.toInt ≤ v3.toInt := i_nlt c11
            refine lv_iconst (v := 1) X.1 X.2.1 dX9_graded_37 (by decide) ?_
            refine lv_goto (tgt := 42) X.1 X.2.1 dX9_graded_38 (by decide) ?_
            refine lv_iadd X.1 X.2.1 dX9_graded_42 ?_
            refine tni (fun x16 ex16 => ?_)
            have q17 := inc_sp v4
            rw [← ex16] at q17
            refine lv_istore (lv' := [(4, .int x16), (0, .ref (G.2.2 0)), (1, .int v1), (2, .int v2), (3, .int v3), (5, .int v5)]) X.1 X.2.1 dX9_graded_43 hl (by decide) rfl (fun ls hl => ?_)
            refine lv_iinc (v := (v5 + 1)) (lv' := [(5, .int (v5 + 1)), (4, .int x16), (0, .ref (G.2.2 0)), (1, .int v1), (2, .int v2), (3, .int v3)]) X.1 X.2.1 dX9_graded_45 hl (k := 5) rfl rfl (by decide) rfl (fun ls hl => ?_)
            refine lv_goto (tgt := 6) X.1 X.2.1 dX9_graded_48 (by decide) ?_
            have q18 := inc_sp v5
            exact ih1 v1 v2 v3 x16 (v5 + 1) (by omega) (by omega) (by omega)  ls (lv_sub hl [2, 3, 4, 5, 1, 0] rfl)
  exact L1 25 a1 a2 a3 0 0 (by decide) (by first | omega | decide) (by first | omega | decide)  ls (lv_sub hl [2, 3, 4, 5, 1, 0] rfl)

def f_X9_rs (M : Mem) (a1 : Int32) : Int32 := bnd (f_X9_graded M a1 1 3) (fun r1 => r1)
set_option maxRecDepth 100000 in
set_option maxHeartbeats 4000000 in
theorem c_X9_rs (l : Launch) (G : En) (A : Nat → Prop) (M : Mem) (a1 : Int32) (hqa : 0 ≤ a1.toInt ∧ a1.toInt < 8) : RdI false l yX9_rs wsX9_rs ({ frames := 2, cells := 0, slots := 0, locals := 47 }) G A M [.ref (G.2.2 0), .int a1] (f_X9_rs M a1) := by
  refine RdI.of (cc := cX9_rs) (maxL := 2) (ret := (some .int)) (own := RX9) (by decide) rfl rfl (Nat.le_of_ble_eq_true rfl) ?_
  intro p e s m below meth c X hw hr hlk ls hl
  have hl : lv_has ls 2 [(0, .ref (G.2.2 0)), (1, .int a1)] := hl
  unfold f_X9_rs
  refine lv_aload_n X.1 X.2.1 dX9_rs_0 rfl (lv_at hl 0 rfl) ?_
  refine lv_iload_n X.1 X.2.1 dX9_rs_1 rfl (lv_at hl 1 rfl) ?_
  refine lv_iconst (v := 1) X.1 X.2.1 dX9_rs_2 (by decide) ?_
  refine lv_iconst (v := 3) X.1 X.2.1 dX9_rs_3 (by decide) ?_
  refine cVI [.int a1, .int 1, .int 3] [] X hw (c_X9_graded l G A M a1 1 3 (by omega)) (cwV 3 X.2.2.2.2 gX9_rs_X9_graded rfl rfl rfl (by decide +kernel) ⟨Nat.le_of_ble_eq_true rfl, Nat.le_of_ble_eq_true rfl⟩) (hw.recv (by decide) hm_MO rfl) rfl rfl hl.1 (Nat.le_of_ble_eq_true rfl) dX9_rs_4 ?_
  refine tni (fun r1 er1 => ?_)
  exact rI X hr hlk dX9_rs_7

def f_X9_count_19 : Nat → Mem → Int32 → Int32 → Int32 → Int32 → Int32
  | 0, M, _, _, _, _ => 0
  | n1 + 1, M, v1, v2, v3, v4 => if (4 : Int32) ≤ v4 then v3 else (if (M.1 4 ((8 * v4) + v1).toNatClampNeg) = 0 then (bnd (v3 + 0) (fun x20 => f_X9_count_19 n1 M v1 v2 x20 (v4 + 1))) else (bnd (v3 + 1) (fun x23 => f_X9_count_19 n1 M v1 v2 x23 (v4 + 1))))
def f_X9_count (M : Mem) (a1 : Int32) (a2 : Int32) : Int32 := bnd (f_X9_isQuestion a1) (fun r1 => if r1 = 0 then (-1) else (if a2 = 2 then (f_X9_count_19 5 M a1 a2 0 0) else (if a2 = 0 then (bnd (f_X9_rs M a1) (fun r13 => r13)) else (if a2 = 1 then (bnd (f_X9_graded M a1 0 0) (fun r11 => r11)) else (-2)))))
set_option maxRecDepth 100000 in
set_option maxHeartbeats 4000000 in
theorem c_X9_count (l : Launch) (G : En) (A : Nat → Prop) (M : Mem) (a1 : Int32) (a2 : Int32) : RdI false l yX9_count wsX9_count ({ frames := 3, cells := 0, slots := 0, locals := 68 }) G A M [.ref (G.2.2 0), .int a1, .int a2] (f_X9_count M a1 a2) := by
  refine RdI.of (cc := cX9_count) (maxL := 5) (ret := (some .int)) (own := RX9) (by decide) rfl rfl (Nat.le_of_ble_eq_true rfl) ?_
  intro p e s m below meth c X hw hr hlk ls hl
  have hl : lv_has ls 5 [(0, .ref (G.2.2 0)), (1, .int a1), (2, .int a2)] := hl
  unfold f_X9_count
  refine lv_iload_n X.1 X.2.1 dX9_count_0 rfl (lv_at hl 1 rfl) ?_
  refine cSI [.int a1] [] X hw (c_X9_isQuestion l G A M a1) (va_cwS 1 X.2.2.2.2 gX9_count_X9_isQuestion rfl rfl rfl (by decide +kernel) ⟨Nat.le_of_ble_eq_true rfl, Nat.le_of_ble_eq_true rfl⟩)  rfl rfl hl.1 (Nat.le_of_ble_eq_true rfl) dX9_count_1 ?_
  refine tni (fun r1 er1 => ?_)
  have zr1 := q_or er1
  refine bz_ne (tgt := 9) X dX9_count_4 (by decide) (fun c2 => ?_) (fun c2 => ?_)
  · skip
    have t3 : ¬ r1.toInt = 0 := i_ne c2
    refine lv_iload_n X.1 X.2.1 dX9_count_9 rfl (lv_at hl 2 rfl) ?_
    refine lv_iconst (v := 2) X.1 X.2.1 dX9_count_10 (by decide) ?_
    refine bi_ne (tgt := 56) X dX9_count_11 (by decide) (fun c4 => ?_) (fun c4 => ?_)
    · skip
      have t5 : ¬ a2.toInt = 2 := i_ne c4
      refine lv_iload_n X.1 X.2.1 dX9_count_56 rfl (lv_at hl 2 rfl) ?_
      refine bz_ne (tgt := 68) X dX9_count_57 (by decide) (fun c6 => ?_) (fun c6 => ?_)
      · skip
        have t7 : ¬ a2.toInt = 0 := i_ne c6
        refine lv_iload_n X.1 X.2.1 dX9_count_68 rfl (lv_at hl 2 rfl) ?_
        refine lv_iconst (v := 1) X.1 X.2.1 dX9_count_69 (by decide) ?_
        refine bi_ne (tgt := 83) X dX9_count_70 (by decide) (fun c8 => ?_) (fun c8 => ?_)
        · skip
          have t9 : ¬ a2.toInt = 1 := i_ne c8
          refine lv_bipush (v := (-2)) X.1 X.2.1 dX9_count_83 (by decide) ?_
          exact rI X hr hlk dX9_count_85
        · skip
          have t10 : a2.toInt = 1 := i_eq c8
          refine lv_aload_n X.1 X.2.1 dX9_count_73 rfl (lv_at hl 0 rfl) ?_
          refine lv_iload_n X.1 X.2.1 dX9_count_74 rfl (lv_at hl 1 rfl) ?_
          refine lv_iconst (v := 0) X.1 X.2.1 dX9_count_75 (by decide) ?_
          refine lv_iconst (v := 0) X.1 X.2.1 dX9_count_76 (by decide) ?_
          refine cVI [.int a1, .int 0, .int 0] [] X hw (c_X9_graded l G A M a1 0 0 (by omega)) (cwV 3 X.2.2.2.2 gX9_count_X9_graded rfl rfl rfl (by decide +kernel) ⟨Nat.le_of_ble_eq_true rfl, Nat.le_of_ble_eq_true rfl⟩) (hw.recv (by decide) hm_MO rfl) rfl rfl hl.1 (Nat.le_of_ble_eq_true rfl) dX9_count_77 ?_
          refine tni (fun r11 er11 => ?_)
          refine lv_goto (tgt := 85) X.1 X.2.1 dX9_count_80 (by decide) ?_
          exact rI X hr hlk dX9_count_85
      · skip
        have t12 : a2.toInt = 0 := i_eq c6
        refine lv_aload_n X.1 X.2.1 dX9_count_60 rfl (lv_at hl 0 rfl) ?_
        refine lv_iload_n X.1 X.2.1 dX9_count_61 rfl (lv_at hl 1 rfl) ?_
        refine cVI [.int a1] [] X hw (c_X9_rs l G A M a1 (by omega)) (cwV 1 X.2.2.2.2 gX9_count_X9_rs rfl rfl rfl (by decide +kernel) ⟨Nat.le_of_ble_eq_true rfl, Nat.le_of_ble_eq_true rfl⟩) (hw.recv (by decide) hm_MO rfl) rfl rfl hl.1 (Nat.le_of_ble_eq_true rfl) dX9_count_62 ?_
        refine tni (fun r13 er13 => ?_)
        refine lv_goto (tgt := 85) X.1 X.2.1 dX9_count_65 (by decide) ?_
        exact rI X hr hlk dX9_count_85
    · skip
      have t14 : a2.toInt = 2 := i_eq c4
      refine lv_iconst (v := 0) X.1 X.2.1 dX9_count_14 (by decide) ?_
      refine lv_istore_n (lv' := [(3, .int 0), (0, .ref (G.2.2 0)), (1, .int a1), (2, .int a2)]) X.1 X.2.1 dX9_count_15 rfl hl (by decide) rfl (fun ls hl => ?_)
      refine lv_iconst (v := 0) X.1 X.2.1 dX9_count_16 (by decide) ?_
      refine lv_istore (lv' := [(4, .int 0), (3, .int 0), (0, .ref (G.2.2 0)), (1, .int a1), (2, .int a2)]) X.1 X.2.1 dX9_count_17 hl (by decide) rfl (fun ls hl => ?_)
      have L1 : ∀ (n1 : Nat) (v1 : Int32) (v2 : Int32) (v3 : Int32) (v4 : Int32)  (hm1 : (4 - v4.toInt : Int).toNat < n1) (hi1_0 : 0 ≤ v4.toInt) (hi1_1 : 0 ≤ v1.toInt ∧ v1.toInt < 8), ∀ ls : Array Slot, lv_has ls 5 [(0, .ref (G.2.2 0)), (1, .int v1), (2, .int v2), (3, .int v3), (4, .int v4)] → W p l e ({ frames := 3, cells := 0, slots := 0, locals := 68 } : Room) s m ([.ref (G.2.2 0), .int a1, .int a2] : List Value).toArray below meth c s.heap [] 0 0 (TSi below ([.ref (G.2.2 0), .int a1, .int a2] : List Value).toArray s (f_X9_count_19 n1 M v1 v2 v3 v4)) (F0 m 19 ls []) := by
        intro n1
        induction n1 with
        | zero => intro v1 v2 v3 v4 hm1 hi1_0 hi1_1; exact absurd hm1 (by omega)
        | succ n1 ih1 =>
          intro v1 v2 v3 v4 hm1 hi1_0 hi1_1 ls hl
          rw [f_X9_count_19]
          refine lv_iload X.1 X.2.1 dX9_count_19 (lv_at hl 4 rfl) ?_
          refine lv_iconst (v := 4) X.1 X.2.1 dX9_count_21 (by decide) ?_
          refine bi_ge (tgt := 54) X dX9_count_22 (by decide) (fun c15 => ?_) (fun c15 => ?_)
          · skip
            have t16 : 4 ≤ v4.toInt := i_le c15
            refine lv_iload_n X.1 X.2.1 dX9_count_54 rfl (lv_at hl 3 rfl) ?_
            exact rI X hr hlk dX9_count_55
          · skip
            have t17 : v4.toInt < 4 := i_nle c15
            refine lv_iload_n X.1 X.2.1 dX9_count_25 rfl (lv_at hl 3 rfl) ?_
            refine lv_aload_n X.1 X.2.1 dX9_count_26 rfl (lv_at hl 0 rfl) ?_
            refine gF X hw (by decide) hm_MO rfl (by decide +kernel) 3 (by decide) (ref := "RankBenchModel") rfl (by decide +kernel) rfl dX9_count_27 ?_
            refine lv_bipush (v := 8) X.1 X.2.1 dX9_count_30 (by decide) ?_
            refine lv_iload X.1 X.2.1 dX9_count_32 (lv_at hl 4 rfl) ?_
            refine lv_imul X.1 X.2.1 dX9_count_34 ?_
            refine lv_iload_n X.1 X.2.1 dX9_count_35 rfl (lv_at hl 1 rfl) ?_
            refine lv_iadd X.1 X.2.1 dX9_count_36 ?_
            have ix9 := ix8 (r := v4) (q := v1) (by omega) (by omega)
            refine aZ X hw (by decide) hm_mt (vp_in_iff.mpr ⟨by omega, by omega⟩) dX9_count_37 ?_
            refine bz_eq (tgt := 45) X dX9_count_38 (by decide) (fun c18 => ?_) (fun c18 => ?_)
            · skip
              have t19 : (M.1 4 ((8 * v4) + v1).toNatClampNeg).toInt = 0 := i_eq c18
              refine lv_iconst (v := 0) X.1 X.2.1 dX9_count_45 (by decide) ?_
              refine lv_iadd X.1 X.2.1 dX9_count_46 ?_
              refine tni (fun x20 ex20 => ?_)
              refine lv_istore_n (lv' := [(3, .int x20), (0, .ref (G.2.2 0)), (1, .int v1), (2, .int v2), (4, .int v4)]) X.1 X.2.1 dX9_count_47 rfl hl (by decide) rfl (fun ls hl => ?_)
              refine lv_iinc (v := (v4 + 1)) (lv' := [(4, .int (v4 + 1)), (3, .int x20), (0, .ref (G.2.2 0)), (1, .int v1), (2, .int v2)]) X.1 X.2.1 dX9_count_48 hl (k := 4) rfl rfl (by decide) rfl (fun ls hl => ?_)
              refine lv_goto (tgt := 19) X.1 X.2.1 dX9_count_51 (by decide) ?_
              have q21 := inc_sp v4
              exact ih1 v1 v2 x20 (v4 + 1) (by omega) (by omega) (by omega)  ls (lv_sub hl [2, 3, 4, 1, 0] rfl)
            · skip
              have t22 : ¬ (M.1 4 ((8 * v4) + v1).toNatClampNeg).toInt = 0 := i_ne c18
              refine lv_iconst (v := 1) X.1 X.2.1 dX9_count_41 (by decide) ?_
              refine lv_goto (tgt := 46) X.1 X.2.1 dX9_count_42 (by decide) ?_
              refine lv_iadd X.1 X.2.1 dX9_count_46 ?_
              refine tni (fun x23 ex23 => ?_)
              have q24 := inc_sp v3
              rw [← ex23] at q24
              refine lv_istore_n (lv' := [(3, .int x23), (0, .ref (G.2.2 0)), (1, .int v1), (2, .int v2), (4, .int v4)]) X.1 X.2.1 dX9_count_47 rfl hl (by decide) rfl (fun ls hl => ?_)
              refine lv_iinc (v := (v4 + 1)) (lv' := [(4, .int (v4 + 1)), (3, .int x23), (0, .ref (G.2.2 0)), (1, .int v1), (2, .int v2)]) X.1 X.2.1 dX9_count_48 hl (k := 4) rfl rfl (by decide) rfl (fun ls hl => ?_)
              refine lv_goto (tgt := 19) X.1 X.2.1 dX9_count_51 (by decide) ?_
              have q25 := inc_sp v4
              exact ih1 v1 v2 x23 (v4 + 1) (by omega) (by omega) (by omega)  ls (lv_sub hl [2, 3, 4, 1, 0] rfl)
      exact L1 5 a1 a2 0 0 (by decide) (by first | omega | decide) (by first | omega | decide)  ls (lv_sub hl [2, 3, 4, 1, 0] rfl)
  · skip
    have t26 : r1.toInt = 0 := i_eq c2
    refine lv_iconst (v := (-1)) X.1 X.2.1 dX9_count_7 (by decide) ?_
    exact rI X hr hlk dX9_count_8
