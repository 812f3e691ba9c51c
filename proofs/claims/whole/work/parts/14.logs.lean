/-! 14.logs -/
def f_J6_numberOfLeadingZeros_0f7a4 (a1 : Int32) : Int32 := if (0 : Int32) < a1 then (if a1 < 65536 then (if a1 < 256 then (if a1 < 16 then (if a1 < 4 then (31 - (a1.toUInt32 >>> ((1 : Int32).toUInt32 &&& Int32.toUInt32 31)).toInt32) else (bnd ((a1.toUInt32 >>> ((2 : Int32).toUInt32 &&& Int32.toUInt32 31)).toInt32) (fun x12 => ((31 + (-2)) - (x12.toUInt32 >>> ((1 : Int32).toUInt32 &&& Int32.toUInt32 31)).toInt32)))) else (bnd ((a1.toUInt32 >>> ((4 : Int32).toUInt32 &&& Int32.toUInt32 31)).toInt32) (fun x14 => if x14 < 4 then ((31 + (-4)) - (x14.toUInt32 >>> ((1 : Int32).toUInt32 &&& Int32.toUInt32 31)).toInt32) else (bnd ((x14.toUInt32 >>> ((2 : Int32).toUInt32 &&& Int32.toUInt32 31)).toInt32) (fun x18 => (((31 + (-4)) + (-2)) - (x18.toUInt32 >>> ((1 : Int32).toUInt32 &&& Int32.toUInt32 31)).toInt32)))))) else (bnd ((a1.toUInt32 >>> ((8 : Int32).toUInt32 &&& Int32.toUInt32 31)).toInt32) (fun x20 => if x20 < 16 then (if x20 < 4 then ((31 + (-8)) - (x20.toUInt32 >>> ((1 : Int32).toUInt32 &&& Int32.toUInt32 31)).toInt32) else (bnd ((x20.toUInt32 >>> ((2 : Int32).toUInt32 &&& Int32.toUInt32 31)).toInt32) (fun x26 => (((31 + (-8)) + (-2)) - (x26.toUInt32 >>> ((1 : Int32).toUInt32 &&& Int32.toUInt32 31)).toInt32)))) else (bnd ((x20.toUInt32 >>> ((4 : Int32).toUInt32 &&& Int32.toUInt32 31)).toInt32) (fun x28 => if x28 < 4 then (((31 + (-8)) + (-4)) - (x28.toUInt32 >>> ((1 : Int32).toUInt32 &&& Int32.toUInt32 31)).toInt32) else (bnd ((x28.toUInt32 >>> ((2 : Int32).toUInt32 &&& Int32.toUInt32 31)).toInt32) (fun x32 => ((((31 + (-8)) + (-4)) + (-2)) - (x32.toUInt32 >>> ((1 : Int32).toUInt32 &&& Int32.toUInt32 31)).toInt32)))))))) else (bnd ((a1.toUInt32 >>> ((16 : Int32).toUInt32 &&& Int32.toUInt32 31)).toInt32) (fun x34 => if x34 < 256 then (if x34 < 16 then (if x34 < 4 then ((31 + (-16)) - (x34.toUInt32 >>> ((1 : Int32).toUInt32 &&& Int32.toUInt32 31)).toInt32) else (bnd ((x34.toUInt32 >>> ((2 : Int32).toUInt32 &&& Int32.toUInt32 31)).toInt32) (fun x42 => (((31 + (-16)) + (-2)) - (x42.toUInt32 >>> ((1 : Int32).toUInt32 &&& Int32.toUInt32 31)).toInt32)))) else (bnd ((x34.toUInt32 >>> ((4 : Int32).toUInt32 &&& Int32.toUInt32 31)).toInt32) (fun x44 => if x44 < 4 then (((31 + (-16)) + (-4)) - (x44.toUInt32 >>> ((1 : Int32).toUInt32 &&& Int32.toUInt32 31)).toInt32) else (bnd ((x44.toUInt32 >>> ((2 : Int32).toUInt32 &&& Int32.toUInt32 31)).toInt32) (fun x48 => ((((31 + (-16)) + (-4)) + (-2)) - (x48.toUInt32 >>> ((1 : Int32).toUInt32 &&& Int32.toUInt32 31)).toInt32)))))) else (bnd ((x34.toUInt32 >>> ((8 : Int32).toUInt32 &&& Int32.toUInt32 31)).toInt32) (fun x50 => if x50 < 16 then (if x50 < 4 then (((31 + (-16)) + (-8)) - (x50.toUInt32 >>> ((1 : Int32).toUInt32 &&& Int32.toUInt32 31)).toInt32) else (bnd ((x50.toUInt32 >>> ((2 : Int32).toUInt32 &&& Int32.toUInt32 31)).toInt32) (fun x56 => ((((31 + (-16)) + (-8)) + (-2)) - (x56.toUInt32 >>> ((1 : Int32).toUInt32 &&& Int32.toUInt32 31)).toInt32)))) else (bnd ((x50.toUInt32 >>> ((4 : Int32).toUInt32 &&& Int32.toUInt32 31)).toInt32) (fun x58 => if x58 < 4 then ((((31 + (-16)) + (-8)) + (-4)) - (x58.toUInt32 >>> ((1 : Int32).toUInt32 &&& Int32.toUInt32 31)).toInt32) else (bnd ((x58.toUInt32 >>> ((2 : Int32).toUInt32 &&& Int32.toUInt32 31)).toInt32) (fun x62 => (((((31 + (-16)) + (-8)) + (-4)) + (-2)) - (x62.toUInt32 >>> ((1 : Int32).toUInt32 &&& Int32.toUInt32 31)).toInt32)))))))))) else (if a1 = 0 then 32 else 0)
set_option maxRecDepth 100000 in
set_option maxHeartbeats 4000000 in
theorem c_J6_numberOfLeadingZeros_0f7a4 (l : Launch) (G : En) (A : Nat → Prop) (M : Mem) (a1 : Int32) : RdI true l yJ6_numberOfLeadingZeros_0f7a4 wsJ6_numberOfLeadingZeros_0f7a4 ({ frames := 0, cells := 0, slots := 0, locals := 0 }) G A M [.int a1] (f_J6_numberOfLeadingZeros_0f7a4 a1) := by
  refine RdI.of (cc := cJ6_numberOfLeadingZeros_0f7a4) (maxL := 2) (ret := (some .int)) (own := RJ6) (by decide) rfl rfl (Nat.le_of_ble_eq_true rfl) ?_
  intro p e s m below meth c X hw hr hlk ls hl
  have hl : lv_has ls 2 [(0, .int a1)] := hl
  unfold f_J6_numberOfLeadingZeros_0f7a4
  refine lv_iload_n X.1 X.2.1 dJ6_numberOfLeadingZeros_0f7a4_0 rfl (lv_at hl 0 rfl) ?_
  refine bz_gt (tgt := 15) X dJ6_numberOfLeadingZeros_0f7a4_1 (by decide) (fun c1 => ?_) (fun c1 => ?_)
  · skip
    have t2 : 0 < a1.toInt := i_lt c1
    refine lv_bipush (v := 31) X.1 X.2.1 dJ6_numberOfLeadingZeros_0f7a4_15 (by decide) ?_
    refine lv_istore_n (lv' := [(1, .int 31), (0, .int a1)]) X.1 X.2.1 dJ6_numberOfLeadingZeros_0f7a4_17 rfl hl (by decide) rfl (fun ls hl => ?_)
    refine lv_iload_n X.1 X.2.1 dJ6_numberOfLeadingZeros_0f7a4_18 rfl (lv_at hl 1 rfl) ?_
    refine lv_ldcw (v := 65536) X.1 X.2.1 X.2.2.2.1 (X.2.2.2.2 (.constant RJ6 264 (65536)) (by decide +kernel)) dJ6_numberOfLeadingZeros_0f7a4_19 ?_
    refine bi_lt (tgt := 33) X dJ6_numberOfLeadingZeros_0f7a4_22 (by decide) (fun c3 => ?_) (fun c3 => ?_)
    · skip
      have t4 : a1.toInt < 65536 := i_lt c3
      refine lv_iload_n X.1 X.2.1 dJ6_numberOfLeadingZeros_0f7a4_33 rfl (lv_at hl 1 rfl) ?_
      refine lv_sipush (v := 256) X.1 X.2.1 dJ6_numberOfLeadingZeros_0f7a4_34 (by decide) ?_
      refine bi_lt (tgt := 48) X dJ6_numberOfLeadingZeros_0f7a4_37 (by decide) (fun c5 => ?_) (fun c5 => ?_)
      · skip
        have t6 : a1.toInt < 256 := i_lt c5
        refine lv_iload_n X.1 X.2.1 dJ6_numberOfLeadingZeros_0f7a4_48 rfl (lv_at hl 1 rfl) ?_
        refine lv_bipush (v := 16) X.1 X.2.1 dJ6_numberOfLeadingZeros_0f7a4_49 (by decide) ?_
        refine bi_lt (tgt := 61) X dJ6_numberOfLeadingZeros_0f7a4_51 (by decide) (fun c7 => ?_) (fun c7 => ?_)
        · skip
          have t8 : a1.toInt < 16 := i_lt c7
          refine lv_iload_n X.1 X.2.1 dJ6_numberOfLeadingZeros_0f7a4_61 rfl (lv_at hl 1 rfl) ?_
          refine lv_iconst (v := 4) X.1 X.2.1 dJ6_numberOfLeadingZeros_0f7a4_62 (by decide) ?_
          refine bi_lt (tgt := 73) X dJ6_numberOfLeadingZeros_0f7a4_63 (by decide) (fun c9 => ?_) (fun c9 => ?_)
          · skip
            have t10 : a1.toInt < 4 := i_lt c9
            refine lv_iload_n X.1 X.2.1 dJ6_numberOfLeadingZeros_0f7a4_73 rfl (lv_at hl 0 rfl) ?_
            refine lv_iload_n X.1 X.2.1 dJ6_numberOfLeadingZeros_0f7a4_74 rfl (lv_at hl 1 rfl) ?_
            refine lv_iconst (v := 1) X.1 X.2.1 dJ6_numberOfLeadingZeros_0f7a4_75 (by decide) ?_
            refine lv_iushr (v := (a1.toUInt32 >>> ((1 : Int32).toUInt32 &&& Int32.toUInt32 31)).toInt32) X.1 X.2.1 dJ6_numberOfLeadingZeros_0f7a4_76 rfl ?_
            refine lv_isub X.1 X.2.1 dJ6_numberOfLeadingZeros_0f7a4_77 ?_
            exact rI X hr hlk dJ6_numberOfLeadingZeros_0f7a4_78
          · skip
            have t11 : 4 ≤ a1.toInt := i_nlt c9
            refine lv_iinc (v := (31 + (-2))) (lv' := [(1, .int (31 + (-2))), (0, .int a1)]) X.1 X.2.1 dJ6_numberOfLeadingZeros_0f7a4_66 hl (k := 0) rfl rfl (by decide) rfl (fun ls hl => ?_)
            refine lv_iload_n X.1 X.2.1 dJ6_numberOfLeadingZeros_0f7a4_69 rfl (lv_at hl 1 rfl) ?_
            refine lv_iconst (v := 2) X.1 X.2.1 dJ6_numberOfLeadingZeros_0f7a4_70 (by decide) ?_
            refine lv_iushr (v := (a1.toUInt32 >>> ((2 : Int32).toUInt32 &&& Int32.toUInt32 31)).toInt32) X.1 X.2.1 dJ6_numberOfLeadingZeros_0f7a4_71 rfl ?_
            refine tni (fun x12 ex12 => ?_)
            refine lv_istore_n (lv' := [(0, .int x12), (1, .int (31 + (-2)))]) X.1 X.2.1 dJ6_numberOfLeadingZeros_0f7a4_72 rfl hl (by decide) rfl (fun ls hl => ?_)
            refine lv_iload_n X.1 X.2.1 dJ6_numberOfLeadingZeros_0f7a4_73 rfl (lv_at hl 1 rfl) ?_
            refine lv_iload_n X.1 X.2.1 dJ6_numberOfLeadingZeros_0f7a4_74 rfl (lv_at hl 0 rfl) ?_
            refine lv_iconst (v := 1) X.1 X.2.1 dJ6_numberOfLeadingZeros_0f7a4_75 (by decide) ?_
            refine lv_iushr (v := (x12.toUInt32 >>> ((1 : Int32).toUInt32 &&& Int32.toUInt32 31)).toInt32) X.1 X.2.1 dJ6_numberOfLeadingZeros_0f7a4_76 rfl ?_
            refine lv_isub X.1 X.2.1 dJ6_numberOfLeadingZeros_0f7a4_77 ?_
            exact rI X hr hlk dJ6_numberOfLeadingZeros_0f7a4_78
        · skip
          have t13 : 16 ≤ a1.toInt := i_nlt c7
          refine lv_iinc (v := (31 + (-4))) (lv' := [(1, .int (31 + (-4))), (0, .int a1)]) X.1 X.2.1 dJ6_numberOfLeadingZeros_0f7a4_54 hl (k := 0) rfl rfl (by decide) rfl (fun ls hl => ?_)
          refine lv_iload_n X.1 X.2.1 dJ6_numberOfLeadingZeros_0f7a4_57 rfl (lv_at hl 1 rfl) ?_
          refine lv_iconst (v := 4) X.1 X.2.1 dJ6_numberOfLeadingZeros_0f7a4_58 (by decide) ?_
          refine lv_iushr (v := (a1.toUInt32 >>> ((4 : Int32).toUInt32 &&& Int32.toUInt32 31)).toInt32) X.1 X.2.1 dJ6_numberOfLeadingZeros_0f7a4_59 rfl ?_
          refine tni (fun x14 ex14 => ?_)
          refine lv_istore_n (lv' := [(0, .int x14), (1, .int (31 + (-4)))]) X.1 X.2.1 dJ6_numberOfLeadingZeros_0f7a4_60 rfl hl (by decide) rfl (fun ls hl => ?_)
          refine lv_iload_n X.1 X.2.1 dJ6_numberOfLeadingZeros_0f7a4_61 rfl (lv_at hl 0 rfl) ?_
          refine lv_iconst (v := 4) X.1 X.2.1 dJ6_numberOfLeadingZeros_0f7a4_62 (by decide) ?_
          refine bi_lt (tgt := 73) X dJ6_numberOfLeadingZeros_0f7a4_63 (by decide) (fun c15 => ?_) (fun c15 => ?_)
          · skip
            have t16 : x14.toInt < 4 := i_lt c15
            refine lv_iload_n X.1 X.2.1 dJ6_numberOfLeadingZeros_0f7a4_73 rfl (lv_at hl 1 rfl) ?_
            refine lv_iload_n X.1 X.2.1 dJ6_numberOfLeadingZeros_0f7a4_74 rfl (lv_at hl 0 rfl) ?_
            refine lv_iconst (v := 1) X.1 X.2.1 dJ6_numberOfLeadingZeros_0f7a4_75 (by decide) ?_
            refine lv_iushr (v := (x14.toUInt32 >>> ((1 : Int32).toUInt32 &&& Int32.toUInt32 31)).toInt32) X.1 X.2.1 dJ6_numberOfLeadingZeros_0f7a4_76 rfl ?_
            refine lv_isub X.1 X.2.1 dJ6_numberOfLeadingZeros_0f7a4_77 ?_
            exact rI X hr hlk dJ6_numberOfLeadingZeros_0f7a4_78
          · skip
            have t17 : 4 ≤ x14.toInt := i_nlt c15
            refine lv_iinc (v := ((31 + (-4)) + (-2))) (lv' := [(1, .int ((31 + (-4)) + (-2))), (0, .int x14)]) X.1 X.2.1 dJ6_numberOfLeadingZeros_0f7a4_66 hl (k := 1) rfl rfl (by decide) rfl (fun ls hl => ?_)
            refine lv_iload_n X.1 X.2.1 dJ6_numberOfLeadingZeros_0f7a4_69 rfl (lv_at hl 1 rfl) ?_
            refine lv_iconst (v := 2) X.1 X.2.1 dJ6_numberOfLeadingZeros_0f7a4_70 (by decide) ?_
            refine lv_iushr (v := (x14.toUInt32 >>> ((2 : Int32).toUInt32 &&& Int32.toUInt32 31)).toInt32) X.1 X.2.1 dJ6_numberOfLeadingZeros_0f7a4_71 rfl ?_
            refine tni (fun x18 ex18 => ?_)
            refine lv_istore_n (lv' := [(0, .int x18), (1, .int ((31 + (-4)) + (-2)))]) X.1 X.2.1 dJ6_numberOfLeadingZeros_0f7a4_72 rfl hl (by decide) rfl (fun ls hl => ?_)
            refine lv_iload_n X.1 X.2.1 dJ6_numberOfLeadingZeros_0f7a4_73 rfl (lv_at hl 1 rfl) ?_
            refine lv_iload_n X.1 X.2.1 dJ6_numberOfLeadingZeros_0f7a4_74 rfl (lv_at hl 0 rfl) ?_
            refine lv_iconst (v := 1) X.1 X.2.1 dJ6_numberOfLeadingZeros_0f7a4_75 (by decide) ?_
            refine lv_iushr (v := (x18.toUInt32 >>> ((1 : Int32).toUInt32 &&& Int32.toUInt32 31)).toInt32) X.1 X.2.1 dJ6_numberOfLeadingZeros_0f7a4_76 rfl ?_
            refine lv_isub X.1 X.2.1 dJ6_numberOfLeadingZeros_0f7a4_77 ?_
            exact rI X hr hlk dJ6_numberOfLeadingZeros_0f7a4_78
      · skip
        have t19 : 256 ≤ a1.toInt := i_nlt c5
        refine lv_iinc (v := (31 + (-8))) (lv' := [(1, .int (31 + (-8))), (0, .int a1)]) X.1 X.2.1 dJ6_numberOfLeadingZeros_0f7a4_40 hl (k := 0) rfl rfl (by decide) rfl (fun ls hl => ?_)
        refine lv_iload_n X.1 X.2.1 dJ6_numberOfLeadingZeros_0f7a4_43 rfl (lv_at hl 1 rfl) ?_
        refine lv_bipush (v := 8) X.1 X.2.1 dJ6_numberOfLeadingZeros_0f7a4_44 (by decide) ?_
        refine lv_iushr (v := (a1.toUInt32 >>> ((8 : Int32).toUInt32 &&& Int32.toUInt32 31)).toInt32) X.1 X.2.1 dJ6_numberOfLeadingZeros_0f7a4_46 rfl ?_
        refine tni (fun x20 ex20 => ?_)
        refine lv_istore_n (lv' := [(0, .int x20), (1, .int (31 + (-8)))]) X.1 X.2.1 dJ6_numberOfLeadingZeros_0f7a4_47 rfl hl (by decide) rfl (fun ls hl => ?_)
        refine lv_iload_n X.1 X.2.1 dJ6_numberOfLeadingZeros_0f7a4_48 rfl (lv_at hl 0 rfl) ?_
        refine lv_bipush (v := 16) X.1 X.2.1 dJ6_numberOfLeadingZeros_0f7a4_49 (by decide) ?_
        refine bi_lt (tgt := 61) X dJ6_numberOfLeadingZeros_0f7a4_51 (by decide) (fun c21 => ?_) (fun c21 => ?_)
        · skip
          have t22 : x20.toInt < 16 := i_lt c21
          refine lv_iload_n X.1 X.2.1 dJ6_numberOfLeadingZeros_0f7a4_61 rfl (lv_at hl 0 rfl) ?_
          refine lv_iconst (v := 4) X.1 X.2.1 dJ6_numberOfLeadingZeros_0f7a4_62 (by decide) ?_
          refine bi_lt (tgt := 73) X dJ6_numberOfLeadingZeros_0f7a4_63 (by decide) (fun c23 => ?_) (fun c23 => ?_)
          · skip
            have t24 : x20.toInt < 4 := i_lt c23
            refine lv_iload_n X.1 X.2.1 dJ6_numberOfLeadingZeros_0f7a4_73 rfl (lv_at hl 1 rfl) ?_
            refine lv_iload_n X.1 X.2.1 dJ6_numberOfLeadingZeros_0f7a4_74 rfl (lv_at hl 0 rfl) ?_
            refine lv_iconst (v := 1) X.1 X.2.1 dJ6_numberOfLeadingZeros_0f7a4_75 (by decide) ?_
            refine lv_iushr (v := (x20.toUInt32 >>> ((1 : Int32).toUInt32 &&& Int32.toUInt32 31)).toInt32) X.1 X.2.1 dJ6_numberOfLeadingZeros_0f7a4_76 rfl ?_
            refine lv_isub X.1 X.2.1 dJ6_numberOfLeadingZeros_0f7a4_77 ?_
            exact rI X hr hlk dJ6_numberOfLeadingZeros_0f7a4_78
          · skip
            have t25 : 4 ≤ x20.toInt := i_nlt c23
            refine lv_iinc (v := ((31 + (-8)) + (-2))) (lv' := [(1, .int ((31 + (-8)) + (-2))), (0, .int x20)]) X.1 X.2.1 dJ6_numberOfLeadingZeros_0f7a4_66 hl (k := 1) rfl rfl (by decide) rfl (fun ls hl => ?_)
            refine lv_iload_n X.1 X.2.1 dJ6_numberOfLeadingZeros_0f7a4_69 rfl (lv_at hl 1 rfl) ?_
            refine lv_iconst (v := 2) X.1 X.2.1 dJ6_numberOfLeadingZeros_0f7a4_70 (by decide) ?_
            refine lv_iushr (v := (x20.toUInt32 >>> ((2 : Int32).toUInt32 &&& Int32.toUInt32 31)).toInt32) X.1 X.2.1 dJ6_numberOfLeadingZeros_0f7a4_71 rfl ?_
            refine tni (fun x26 ex26 => ?_)
            refine lv_istore_n (lv' := [(0, .int x26), (1, .int ((31 + (-8)) + (-2)))]) X.1 X.2.1 dJ6_numberOfLeadingZeros_0f7a4_72 rfl hl (by decide) rfl (fun ls hl => ?_)
            refine lv_iload_n X.1 X.2.1 dJ6_numberOfLeadingZeros_0f7a4_73 rfl (lv_at hl 1 rfl) ?_
            refine lv_iload_n X.1 X.2.1 dJ6_numberOfLeadingZeros_0f7a4_74 rfl (lv_at hl 0 rfl) ?_
            refine lv_iconst (v := 1) X.1 X.2.1 dJ6_numberOfLeadingZeros_0f7a4_75 (by decide) ?_
            refine lv_iushr (v := (x26.toUInt32 >>> ((1 : Int32).toUInt32 &&& Int32.toUInt32 31)).toInt32) X.1 X.2.1 dJ6_numberOfLeadingZeros_0f7a4_76 rfl ?_
            refine lv_isub X.1 X.2.1 dJ6_numberOfLeadingZeros_0f7a4_77 ?_
            exact rI X hr hlk dJ6_numberOfLeadingZeros_0f7a4_78
        · skip
          have t27 : 16 ≤ x20.toInt := i_nlt c21
          refine lv_iinc (v := ((31 + (-8)) + (-4))) (lv' := [(1, .int ((31 + (-8)) + (-4))), (0, .int x20)]) X.1 X.2.1 dJ6_numberOfLeadingZeros_0f7a4_54 hl (k := 1) rfl rfl (by decide) rfl (fun ls hl => ?_)
          refine lv_iload_n X.1 X.2.1 dJ6_numberOfLeadingZeros_0f7a4_57 rfl (lv_at hl 1 rfl) ?_
          refine lv_iconst (v := 4) X.1 X.2.1 dJ6_numberOfLeadingZeros_0f7a4_58 (by decide) ?_
          refine lv_iushr (v := (x20.toUInt32 >>> ((4 : Int32).toUInt32 &&& Int32.toUInt32 31)).toInt32) X.1 X.2.1 dJ6_numberOfLeadingZeros_0f7a4_59 rfl ?_
          refine tni (fun x28 ex28 => ?_)
          refine lv_istore_n (lv' := [(0, .int x28), (1, .int ((31 + (-8)) + (-4)))]) X.1 X.2.1 dJ6_numberOfLeadingZeros_0f7a4_60 rfl hl (by decide) rfl (fun ls hl => ?_)
          refine lv_iload_n X.1 X.2.1 dJ6_numberOfLeadingZeros_0f7a4_61 rfl (lv_at hl 0 rfl) ?_
          refine lv_iconst (v := 4) X.1 X.2.1 dJ6_numberOfLeadingZeros_0f7a4_62 (by decide) ?_
          refine bi_lt (tgt := 73) X dJ6_numberOfLeadingZeros_0f7a4_63 (by decide) (fun c29 => ?_) (fun c29 => ?_)
          · skip
            have t30 : x28.toInt < 4 := i_lt c29
            refine lv_iload_n X.1 X.2.1 dJ6_numberOfLeadingZeros_0f7a4_73 rfl (lv_at hl 1 rfl) ?_
            refine lv_iload_n X.1 X.2.1 dJ6_numberOfLeadingZeros_0f7a4_74 rfl (lv_at hl 0 rfl) ?_
            refine lv_iconst (v := 1) X.1 X.2.1 dJ6_numberOfLeadingZeros_0f7a4_75 (by decide) ?_
            refine lv_iushr (v := (x28.toUInt32 >>> ((1 : Int32).toUInt32 &&& Int32.toUInt32 31)).toInt32) X.1 X.2.1 dJ6_numberOfLeadingZeros_0f7a4_76 rfl ?_
            refine lv_isub X.1 X.2.1 dJ6_numberOfLeadingZeros_0f7a4_77 ?_
            exact rI X hr hlk dJ6_numberOfLeadingZeros_0f7a4_78
          · skip
            have t31 : 4 ≤ x28.toInt := i_nlt c29
            refine lv_iinc (v := (((31 + (-8)) + (-4)) + (-2))) (lv' := [(1, .int (((31 + (-8)) + (-4)) + (-2))), (0, .int x28)]) X.1 X.2.1 dJ6_numberOfLeadingZeros_0f7a4_66 hl (k := 1) rfl rfl (by decide) rfl (fun ls hl => ?_)
            refine lv_iload_n X.1 X.2.1 dJ6_numberOfLeadingZeros_0f7a4_69 rfl (lv_at hl 1 rfl) ?_
            refine lv_iconst (v := 2) X.1 X.2.1 dJ6_numberOfLeadingZeros_0f7a4_70 (by decide) ?_
            refine lv_iushr (v := (x28.toUInt32 >>> ((2 : Int32).toUInt32 &&& Int32.toUInt32 31)).toInt32) X.1 X.2.1 dJ6_numberOfLeadingZeros_0f7a4_71 rfl ?_
            refine tni (fun x32 ex32 => ?_)
            refine lv_istore_n (lv' := [(0, .int x32), (1, .int (((31 + (-8)) + (-4)) + (-2)))]) X.1 X.2.1 dJ6_numberOfLeadingZeros_0f7a4_72 rfl hl (by decide) rfl (fun ls hl => ?_)
            refine lv_iload_n X.1 X.2.1 dJ6_numberOfLeadingZeros_0f7a4_73 rfl (lv_at hl 1 rfl) ?_
            refine lv_iload_n X.1 X.2.1 dJ6_numberOfLeadingZeros_0f7a4_74 rfl (lv_at hl 0 rfl) ?_
            refine lv_iconst (v := 1) X.1 X.2.1 dJ6_numberOfLeadingZeros_0f7a4_75 (by decide) ?_
            refine lv_iushr (v := (x32.toUInt32 >>> ((1 : Int32).toUInt32 &&& Int32.toUInt32 31)).toInt32) X.1 X.2.1 dJ6_numberOfLeadingZeros_0f7a4_76 rfl ?_
            refine lv_isub X.1 X.2.1 dJ6_numberOfLeadingZeros_0f7a4_77 ?_
            exact rI X hr hlk dJ6_numberOfLeadingZeros_0f7a4_78
    · skip
      have t33 : 65536 ≤ a1.toInt := i_nlt c3
      refine lv_iinc (v := (31 + (-16))) (lv' := [(1, .int (31 + (-16))), (0, .int a1)]) X.1 X.2.1 dJ6_numberOfLeadingZeros_0f7a4_25 hl (k := 0) rfl rfl (by decide) rfl (fun ls hl => ?_)
      refine lv_iload_n X.1 X.2.1 dJ6_numberOfLeadingZeros_0f7a4_28 rfl (lv_at hl 1 rfl) ?_
      refine lv_bipush (v := 16) X.1 X.2.1 dJ6_numberOfLeadingZeros_0f7a4_29 (by decide) ?_
      refine lv_iushr (v := (a1.toUInt32 >>> ((16 : Int32).toUInt32 &&& Int32.toUInt32 31)).toInt32) X.1 X.2.1 dJ6_numberOfLeadingZeros_0f7a4_31 rfl ?_
      refine tni (fun x34 ex34 => ?_)
      refine lv_istore_n (lv' := [(0, .int x34), (1, .int (31 + (-16)))]) X.1 X.2.1 dJ6_numberOfLeadingZeros_0f7a4_32 rfl hl (by decide) rfl (fun ls hl => ?_)
      refine lv_iload_n X.1 X.2.1 dJ6_numberOfLeadingZeros_0f7a4_33 rfl (lv_at hl 0 rfl) ?_
      refine lv_sipush (v := 256) X.1 X.2.1 dJ6_numberOfLeadingZeros_0f7a4_34 (by decide) ?_
      refine bi_lt (tgt := 48) X dJ6_numberOfLeadingZeros_0f7a4_37 (by decide) (fun c35 => ?_) (fun c35 => ?_)
      · skip
        have t36 : x34.toInt < 256 := i_lt c35
        refine lv_iload_n X.1 X.2.1 dJ6_numberOfLeadingZeros_0f7a4_48 rfl (lv_at hl 0 rfl) ?_
        refine lv_bipush (v := 16) X.1 X.2.1 dJ6_numberOfLeadingZeros_0f7a4_49 (by decide) ?_
        refine bi_lt (tgt := 61) X dJ6_numberOfLeadingZeros_0f7a4_51 (by decide) (fun c37 => ?_) (fun c37 => ?_)
        · skip
          have t38 : x34.toInt < 16 := i_lt c37
          refine lv_iload_n X.1 X.2.1 dJ6_numberOfLeadingZeros_0f7a4_61 rfl (lv_at hl 0 rfl) ?_
          refine lv_iconst (v := 4) X.1 X.2.1 dJ6_numberOfLeadingZeros_0f7a4_62 (by decide) ?_
          refine bi_lt (tgt := 73) X dJ6_numberOfLeadingZeros_0f7a4_63 (by decide) (fun c39 => ?_) (fun c39 => ?_)
          · skip
            have t40 : x34.toInt < 4 := i_lt c39
            refine lv_iload_n X.1 X.2.1 dJ6_numberOfLeadingZeros_0f7a4_73 rfl (lv_at hl 1 rfl) ?_
            refine lv_iload_n X.1 X.2.1 dJ6_numberOfLeadingZeros_0f7a4_74 rfl (lv_at hl 0 rfl) ?_
            refine lv_iconst (v := 1) X.1 X.2.1 dJ6_numberOfLeadingZeros_0f7a4_75 (by decide) ?_
            refine lv_iushr (v := (x34.toUInt32 >>> ((1 : Int32).toUInt32 &&& Int32.toUInt32 31)).toInt32) X.1 X.2.1 dJ6_numberOfLeadingZeros_0f7a4_76 rfl ?_
            refine lv_isub X.1 X.2.1 dJ6_numberOfLeadingZeros_0f7a4_77 ?_
            exact rI X hr hlk dJ6_numberOfLeadingZeros_0f7a4_78
          · skip
            have t41 : 4 ≤ x34.toInt := i_nlt c39
            refine lv_iinc (v := ((31 + (-16)) + (-2))) (lv' := [(1, .int ((31 + (-16)) + (-2))), (0, .int x34)]) X.1 X.2.1 dJ6_numberOfLeadingZeros_0f7a4_66 hl (k := 1) rfl rfl (by decide) rfl (fun ls hl => ?_)
            refine lv_iload_n X.1 X.2.1 dJ6_numberOfLeadingZeros_0f7a4_69 rfl (lv_at hl 1 rfl) ?_
            refine lv_iconst (v := 2) X.1 X.2.1 dJ6_numberOfLeadingZeros_0f7a4_70 (by decide) ?_
            refine lv_iushr (v := (x34.toUInt32 >>> ((2 : Int32).toUInt32 &&& Int32.toUInt32 31)).toInt32) X.1 X.2.1 dJ6_numberOfLeadingZeros_0f7a4_71 rfl ?_
            refine tni (fun x42 ex42 => ?_)
            refine lv_istore_n (lv' := [(0, .int x42), (1, .int ((31 + (-16)) + (-2)))]) X.1 X.2.1 dJ6_numberOfLeadingZeros_0f7a4_72 rfl hl (by decide) rfl (fun ls hl => ?_)
            refine lv_iload_n X.1 X.2.1 dJ6_numberOfLeadingZeros_0f7a4_73 rfl (lv_at hl 1 rfl) ?_
            refine lv_iload_n X.1 X.2.1 dJ6_numberOfLeadingZeros_0f7a4_74 rfl (lv_at hl 0 rfl) ?_
            refine lv_iconst (v := 1) X.1 X.2.1 dJ6_numberOfLeadingZeros_0f7a4_75 (by decide) ?_
            refine lv_iushr (v := (x42.toUInt32 >>> ((1 : Int32).toUInt32 &&& Int32.toUInt32 31)).toInt32) X.1 X.2.1 dJ6_numberOfLeadingZeros_0f7a4_76 rfl ?_
            refine lv_isub X.1 X.2.1 dJ6_numberOfLeadingZeros_0f7a4_77 ?_
            exact rI X hr hlk dJ6_numberOfLeadingZeros_0f7a4_78
        · skip
          have t43 : 16 ≤ x34.toInt := i_nlt c37
          refine lv_iinc (v := ((31 + (-16)) + (-4))) (lv' := [(1, .int ((31 + (-16)) + (-4))), (0, .int x34)]) X.1 X.2.1 dJ6_numberOfLeadingZeros_0f7a4_54 hl (k := 1) rfl rfl (by decide) rfl (fun ls hl => ?_)
          refine lv_iload_n X.1 X.2.1 dJ6_numberOfLeadingZeros_0f7a4_57 rfl (lv_at hl 1 rfl) ?_
          refine lv_iconst (v := 4) X.1 X.2.1 dJ6_numberOfLeadingZeros_0f7a4_58 (by decide) ?_
          refine lv_iushr (v := (x34.toUInt32 >>> ((4 : Int32).toUInt32 &&& Int32.toUInt32 31)).toInt32) X.1 X.2.1 dJ6_numberOfLeadingZeros_0f7a4_59 rfl ?_
          refine tni (fun x44 ex44 => ?_)
          refine lv_istore_n (lv' := [(0, .int x44), (1, .int ((31 + (-16)) + (-4)))]) X.1 X.2.1 dJ6_numberOfLeadingZeros_0f7a4_60 rfl hl (by decide) rfl (fun ls hl => ?_)
          refine lv_iload_n X.1 X.2.1 dJ6_numberOfLeadingZeros_0f7a4_61 rfl (lv_at hl 0 rfl) ?_
          refine lv_iconst (v := 4) X.1 X.2.1 dJ6_numberOfLeadingZeros_0f7a4_62 (by decide) ?_
          refine bi_lt (tgt := 73) X dJ6_numberOfLeadingZeros_0f7a4_63 (by decide) (fun c45 => ?_) (fun c45 => ?_)
          · skip
            have t46 : x44.toInt < 4 := i_lt c45
            refine lv_iload_n X.1 X.2.1 dJ6_numberOfLeadingZeros_0f7a4_73 rfl (lv_at hl 1 rfl) ?_
            refine lv_iload_n X.1 X.2.1 dJ6_numberOfLeadingZeros_0f7a4_74 rfl (lv_at hl 0 rfl) ?_
            refine lv_iconst (v := 1) X.1 X.2.1 dJ6_numberOfLeadingZeros_0f7a4_75 (by decide) ?_
            refine lv_iushr (v := (x44.toUInt32 >>> ((1 : Int32).toUInt32 &&& Int32.toUInt32 31)).toInt32) X.1 X.2.1 dJ6_numberOfLeadingZeros_0f7a4_76 rfl ?_
            refine lv_isub X.1 X.2.1 dJ6_numberOfLeadingZeros_0f7a4_77 ?_
            exact rI X hr hlk dJ6_numberOfLeadingZeros_0f7a4_78
          · skip
            have t47 : 4 ≤ x44.toInt := i_nlt c45
            refine lv_iinc (v := (((31 + (-16)) + (-4)) + (-2))) (lv' := [(1, .int (((31 + (-16)) + (-4)) + (-2))), (0, .int x44)]) X.1 X.2.1 dJ6_numberOfLeadingZeros_0f7a4_66 hl (k := 1) rfl rfl (by decide) rfl (fun ls hl => ?_)
            refine lv_iload_n X.1 X.2.1 dJ6_numberOfLeadingZeros_0f7a4_69 rfl (lv_at hl 1 rfl) ?_
            refine lv_iconst (v := 2) X.1 X.2.1 dJ6_numberOfLeadingZeros_0f7a4_70 (by decide) ?_
            refine lv_iushr (v := (x44.toUInt32 >>> ((2 : Int32).toUInt32 &&& Int32.toUInt32 31)).toInt32) X.1 X.2.1 dJ6_numberOfLeadingZeros_0f7a4_71 rfl ?_
            refine tni (fun x48 ex48 => ?_)
            refine lv_istore_n (lv' := [(0, .int x48), (1, .int (((31 + (-16)) + (-4)) + (-2)))]) X.1 X.2.1 dJ6_numberOfLeadingZeros_0f7a4_72 rfl hl (by decide) rfl (fun ls hl => ?_)
            refine lv_iload_n X.1 X.2.1 dJ6_numberOfLeadingZeros_0f7a4_73 rfl (lv_at hl 1 rfl) ?_
            refine lv_iload_n X.1 X.2.1 dJ6_numberOfLeadingZeros_0f7a4_74 rfl (lv_at hl 0 rfl) ?_
            refine lv_iconst (v := 1) X.1 X.2.1 dJ6_numberOfLeadingZeros_0f7a4_75 (by decide) ?_
            refine lv_iushr (v := (x48.toUInt32 >>> ((1 : Int32).toUInt32 &&& Int32.toUInt32 31)).toInt32) X.1 X.2.1 dJ6_numberOfLeadingZeros_0f7a4_76 rfl ?_
            refine lv_isub X.1 X.2.1 dJ6_numberOfLeadingZeros_0f7a4_77 ?_
            exact rI X hr hlk dJ6_numberOfLeadingZeros_0f7a4_78
      · skip
        have t49 : 256 ≤ x34.toInt := i_nlt c35
        refine lv_iinc (v := ((31 + (-16)) + (-8))) (lv' := [(1, .int ((31 + (-16)) + (-8))), (0, .int x34)]) X.1 X.2.1 dJ6_numberOfLeadingZeros_0f7a4_40 hl (k := 1) rfl rfl (by decide) rfl (fun ls hl => ?_)
        refine lv_iload_n X.1 X.2.1 dJ6_numberOfLeadingZeros_0f7a4_43 rfl (lv_at hl 1 rfl) ?_
        refine lv_bipush (v := 8) X.1 X.2.1 dJ6_numberOfLeadingZeros_0f7a4_44 (by decide) ?_
        refine lv_iushr (v := (x34.toUInt32 >>> ((8 : Int32).toUInt32 &&& Int32.toUInt32 31)).toInt32) X.1 X.2.1 dJ6_numberOfLeadingZeros_0f7a4_46 rfl ?_
        refine tni (fun x50 ex50 => ?_)
        refine lv_istore_n (lv' := [(0, .int x50), (1, .int ((31 + (-16)) + (-8)))]) X.1 X.2.1 dJ6_numberOfLeadingZeros_0f7a4_47 rfl hl (by decide) rfl (fun ls hl => ?_)
        refine lv_iload_n X.1 X.2.1 dJ6_numberOfLeadingZeros_0f7a4_48 rfl (lv_at hl 0 rfl) ?_
        refine lv_bipush (v := 16) X.1 X.2.1 dJ6_numberOfLeadingZeros_0f7a4_49 (by decide) ?_
        refine bi_lt (tgt := 61) X dJ6_numberOfLeadingZeros_0f7a4_51 (by decide) (fun c51 => ?_) (fun c51 => ?_)
        · skip
          have t52 : x50.toInt < 16 := i_lt c51
          refine lv_iload_n X.1 X.2.1 dJ6_numberOfLeadingZeros_0f7a4_61 rfl (lv_at hl 0 rfl) ?_
          refine lv_iconst (v := 4) X.1 X.2.1 dJ6_numberOfLeadingZeros_0f7a4_62 (by decide) ?_
          refine bi_lt (tgt := 73) X dJ6_numberOfLeadingZeros_0f7a4_63 (by decide) (fun c53 => ?_) (fun c53 => ?_)
          · skip
            have t54 : x50.toInt < 4 := i_lt c53
            refine lv_iload_n X.1 X.2.1 dJ6_numberOfLeadingZeros_0f7a4_73 rfl (lv_at hl 1 rfl) ?_
            refine lv_iload_n X.1 X.2.1 dJ6_numberOfLeadingZeros_0f7a4_74 rfl (lv_at hl 0 rfl) ?_
            refine lv_iconst (v := 1) X.1 X.2.1 dJ6_numberOfLeadingZeros_0f7a4_75 (by decide) ?_
            refine lv_iushr (v := (x50.toUInt32 >>> ((1 : Int32).toUInt32 &&& Int32.toUInt32 31)).toInt32) X.1 X.2.1 dJ6_numberOfLeadingZeros_0f7a4_76 rfl ?_
            refine lv_isub X.1 X.2.1 dJ6_numberOfLeadingZeros_0f7a4_77 ?_
            exact rI X hr hlk dJ6_numberOfLeadingZeros_0f7a4_78
          · skip
            have t55 : 4 ≤ x50.toInt := i_nlt c53
            refine lv_iinc (v := (((31 + (-16)) + (-8)) + (-2))) (lv' := [(1, .int (((31 + (-16)) + (-8)) + (-2))), (0, .int x50)]) X.1 X.2.1 dJ6_numberOfLeadingZeros_0f7a4_66 hl (k := 1) rfl rfl (by decide) rfl (fun ls hl => ?_)
            refine lv_iload_n X.1 X.2.1 dJ6_numberOfLeadingZeros_0f7a4_69 rfl (lv_at hl 1 rfl) ?_
            refine lv_iconst (v := 2) X.1 X.2.1 dJ6_numberOfLeadingZeros_0f7a4_70 (by decide) ?_
            refine lv_iushr (v := (x50.toUInt32 >>> ((2 : Int32).toUInt32 &&& Int32.toUInt32 31)).toInt32) X.1 X.2.1 dJ6_numberOfLeadingZeros_0f7a4_71 rfl ?_
            refine tni (fun x56 ex56 => ?_)
            refine lv_istore_n (lv' := [(0, .int x56), (1, .int (((31 + (-16)) + (-8)) + (-2)))]) X.1 X.2.1 dJ6_numberOfLeadingZeros_0f7a4_72 rfl hl (by decide) rfl (fun ls hl => ?_)
            refine lv_iload_n X.1 X.2.1 dJ6_numberOfLeadingZeros_0f7a4_73 rfl (lv_at hl 1 rfl) ?_
            refine lv_iload_n X.1 X.2.1 dJ6_numberOfLeadingZeros_0f7a4_74 rfl (lv_at hl 0 rfl) ?_
            refine lv_iconst (v := 1) X.1 X.2.1 dJ6_numberOfLeadingZeros_0f7a4_75 (by decide) ?_
            refine lv_iushr (v := (x56.toUInt32 >>> ((1 : Int32).toUInt32 &&& Int32.toUInt32 31)).toInt32) X.1 X.2.1 dJ6_numberOfLeadingZeros_0f7a4_76 rfl ?_
            refine lv_isub X.1 X.2.1 dJ6_numberOfLeadingZeros_0f7a4_77 ?_
            exact rI X hr hlk dJ6_numberOfLeadingZeros_0f7a4_78
        · skip
          have t57 : 16 ≤ x50.toInt := i_nlt c51
          refine lv_iinc (v := (((31 + (-16)) + (-8)) + (-4))) (lv' := [(1, .int (((31 + (-16)) + (-8)) + (-4))), (0, .int x50)]) X.1 X.2.1 dJ6_numberOfLeadingZeros_0f7a4_54 hl (k := 1) rfl rfl (by decide) rfl (fun ls hl => ?_)
          refine lv_iload_n X.1 X.2.1 dJ6_numberOfLeadingZeros_0f7a4_57 rfl (lv_at hl 1 rfl) ?_
          refine lv_iconst (v := 4) X.1 X.2.1 dJ6_numberOfLeadingZeros_0f7a4_58 (by decide) ?_
          refine lv_iushr (v := (x50.toUInt32 >>> ((4 : Int32).toUInt32 &&& Int32.toUInt32 31)).toInt32) X.1 X.2.1 dJ6_numberOfLeadingZeros_0f7a4_59 rfl ?_
          refine tni (fun x58 ex58 => ?_)
          refine lv_istore_n (lv' := [(0, .int x58), (1, .int (((31 + (-16)) + (-8)) + (-4)))]) X.1 X.2.1 dJ6_numberOfLeadingZeros_0f7a4_60 rfl hl (by decide) rfl (fun ls hl => ?_)
          refine lv_iload_n X.1 X.2.1 dJ6_numberOfLeadingZeros_0f7a4_61 rfl (lv_at hl 0 rfl) ?_
          refine lv_iconst (v := 4) X.1 X.2.1 dJ6_numberOfLeadingZeros_0f7a4_62 (by decide) ?_
          refine bi_lt (tgt := 73) X dJ6_numberOfLeadingZeros_0f7a4_63 (by decide) (fun c59 => ?_) (fun c59 => ?_)
          · skip
            have t60 : x58.toInt < 4 := i_lt c59
            refine lv_iload_n X.1 X.2.1 dJ6_numberOfLeadingZeros_0f7a4_73 rfl (lv_at hl 1 rfl) ?_
            refine lv_iload_n X.1 X.2.1 dJ6_numberOfLeadingZeros_0f7a4_74 rfl (lv_at hl 0 rfl) ?_
            refine lv_iconst (v := 1) X.1 X.2.1 dJ6_numberOfLeadingZeros_0f7a4_75 (by decide) ?_
            refine lv_iushr (v := (x58.toUInt32 >>> ((1 : Int32).toUInt32 &&& Int32.toUInt32 31)).toInt32) X.1 X.2.1 dJ6_numberOfLeadingZeros_0f7a4_76 rfl ?_
            refine lv_isub X.1 X.2.1 dJ6_numberOfLeadingZeros_0f7a4_77 ?_
            exact rI X hr hlk dJ6_numberOfLeadingZeros_0f7a4_78
          · skip
            have t61 : 4 ≤ x58.toInt := i_nlt c59
            refine lv_iinc (v := ((((31 + (-16)) + (-8)) + (-4)) + (-2))) (lv' := [(1, .int ((((31 + (-16)) + (-8)) + (-4)) + (-2))), (0, .int x58)]) X.1 X.2.1 dJ6_numberOfLeadingZeros_0f7a4_66 hl (k := 1) rfl rfl (by decide) rfl (fun ls hl => ?_)
            refine lv_iload_n X.1 X.2.1 dJ6_numberOfLeadingZeros_0f7a4_69 rfl (lv_at hl 1 rfl) ?_
            refine lv_iconst (v := 2) X.1 X.2.1 dJ6_numberOfLeadingZeros_0f7a4_70 (by decide) ?_
            refine lv_iushr (v := (x58.toUInt32 >>> ((2 : Int32).toUInt32 &&& Int32.toUInt32 31)).toInt32) X.1 X.2.1 dJ6_numberOfLeadingZeros_0f7a4_71 rfl ?_
            refine tni (fun x62 ex62 => ?_)
            refine lv_istore_n (lv' := [(0, .int x62), (1, .int ((((31 + (-16)) + (-8)) + (-4)) + (-2)))]) X.1 X.2.1 dJ6_numberOfLeadingZeros_0f7a4_72 rfl hl (by decide) rfl (fun ls hl => ?_)
            refine lv_iload_n X.1 X.2.1 dJ6_numberOfLeadingZeros_0f7a4_73 rfl (lv_at hl 1 rfl) ?_
            refine lv_iload_n X.1 X.2.1 dJ6_numberOfLeadingZeros_0f7a4_74 rfl (lv_at hl 0 rfl) ?_
            refine lv_iconst (v := 1) X.1 X.2.1 dJ6_numberOfLeadingZeros_0f7a4_75 (by decide) ?_
            refine lv_iushr (v := (x62.toUInt32 >>> ((1 : Int32).toUInt32 &&& Int32.toUInt32 31)).toInt32) X.1 X.2.1 dJ6_numberOfLeadingZeros_0f7a4_76 rfl ?_
            refine lv_isub X.1 X.2.1 dJ6_numberOfLeadingZeros_0f7a4_77 ?_
            exact rI X hr hlk dJ6_numberOfLeadingZeros_0f7a4_78
  · skip
    have t63 : a1.toInt ≤ 0 := i_nlt c1
    refine lv_iload_n X.1 X.2.1 dJ6_numberOfLeadingZeros_0f7a4_4 rfl (lv_at hl 0 rfl) ?_
    refine bz_ne (tgt := 13) X dJ6_numberOfLeadingZeros_0f7a4_5 (by decide) (fun c64 => ?_) (fun c64 => ?_)
    · skip
      have t65 : ¬ a1.toInt = 0 := i_ne c64
      refine lv_iconst (v := 0) X.1 X.2.1 dJ6_numberOfLeadingZeros_0f7a4_13 (by decide) ?_
      exact rI X hr hlk dJ6_numberOfLeadingZeros_0f7a4_14
    · skip
      have t66 : a1.toInt = 0 := i_eq c64
      refine lv_bipush (v := 32) X.1 X.2.1 dJ6_numberOfLeadingZeros_0f7a4_8 (by decide) ?_
      refine lv_goto (tgt := 14) X.1 X.2.1 dJ6_numberOfLeadingZeros_0f7a4_10 (by decide) ?_
      exact rI X hr hlk dJ6_numberOfLeadingZeros_0f7a4_14

def f_X2_logOf_30 : Nat → Int32 → Int32 → Int64 → Int64 → Int32 → Int64
  | 0, _, _, _, _, _ => 0
  | n1 + 1, v0, v1, v2, v4, v6 => if (20 : Int32) ≤ v6 then v4 else (bnd ((v2 * v2) >>> ((30 : Int32).toInt64 &&& 63)) (fun w10 => bnd (v4 <<< ((1 : Int32).toInt64 &&& 63)) (fun w11 => if w10 < 2147483648 then (f_X2_logOf_30 n1  v0 v1 w10 w11 (v6 + 1)) else (bnd (w10 >>> ((1 : Int32).toInt64 &&& 63)) (fun w14 => bnd (w11 + 1) (fun w15 => f_X2_logOf_30 n1  v0 v1 w14 w15 (v6 + 1)))))))
def f_X2_logOf (a1 : Int32) : Int64 := if (2 : Int32) ≤ a1 then (bnd (f_J6_numberOfLeadingZeros_0f7a4 a1) (fun r3 => bnd (31 - r3) (fun x4 => bnd ((a1.toInt64 <<< ((30 : Int32).toInt64 &&& 63)) >>> (x4.toInt64 &&& 63)) (fun w5 => bnd x4.toInt64 (fun w6 => f_X2_logOf_30 21  a1 x4 w5 w6 0))))) else 0
set_option maxRecDepth 100000 in
set_option maxHeartbeats 4000000 in
theorem c_X2_logOf (l : Launch) (G : En) (A : Nat → Prop) (M : Mem) (a1 : Int32) : RdL true l yX2_logOf wsX2_logOf ({ frames := 1, cells := 0, slots := 0, locals := 21 }) G A M [.int a1] (f_X2_logOf a1) := by
  refine RdL.of (cc := cX2_logOf) (maxL := 7) (ret := (some .long)) (own := RX2) (by decide) rfl rfl (Nat.le_of_ble_eq_true rfl) ?_
  intro p e s m below meth c X hw hr hlk ls hl
  have hl : lv_has ls 7 [(0, .int a1)] := hl
  unfold f_X2_logOf
  refine lv_iload_n X.1 X.2.1 dX2_logOf_0 rfl (lv_at hl 0 rfl) ?_
  refine lv_iconst (v := 2) X.1 X.2.1 dX2_logOf_1 (by decide) ?_
  refine bi_ge (tgt := 7) X dX2_logOf_2 (by decide) (fun c1 => ?_) (fun c1 => ?_)
  · skip
    have t2 : 2 ≤ a1.toInt := i_le c1
    refine lv_bipush (v := 31) X.1 X.2.1 dX2_logOf_7 (by decide) ?_
    refine lv_iload_n X.1 X.2.1 dX2_logOf_9 rfl (lv_at hl 0 rfl) ?_
    refine cSI [.int a1] [.int 31] X hw (c_J6_numberOfLeadingZeros_0f7a4 l G A M a1) (va_cwS 1 X.2.2.2.2 gX2_logOf_J6_numberOfLeadingZeros_0f7a4 rfl rfl rfl (by decide +kernel) ⟨Nat.le_of_ble_eq_true rfl, Nat.le_of_ble_eq_true rfl⟩)  rfl rfl hl.1 (Nat.le_of_ble_eq_true rfl) dX2_logOf_10 ?_
    refine tni (fun r3 er3 => ?_)
    refine lv_isub X.1 X.2.1 dX2_logOf_13 ?_
    refine tni (fun x4 ex4 => ?_)
    refine lv_istore_n (lv' := [(1, .int x4), (0, .int a1)]) X.1 X.2.1 dX2_logOf_14 rfl hl (by decide) rfl (fun ls hl => ?_)
    refine lv_iload_n X.1 X.2.1 dX2_logOf_15 rfl (lv_at hl 1 rfl) ?_
    refine lv_i2l (v := a1.toInt64) X.1 X.2.1 dX2_logOf_16 rfl ?_
    refine lv_bipush (v := 30) X.1 X.2.1 dX2_logOf_17 (by decide) ?_
    refine lv_lshl (v := (a1.toInt64 <<< ((30 : Int32).toInt64 &&& 63))) X.1 X.2.1 dX2_logOf_19 rfl ?_
    refine lv_iload_n X.1 X.2.1 dX2_logOf_20 rfl (lv_at hl 0 rfl) ?_
    refine lv_lshr (v := ((a1.toInt64 <<< ((30 : Int32).toInt64 &&& 63)) >>> (x4.toInt64 &&& 63))) X.1 X.2.1 dX2_logOf_21 rfl ?_
    refine tnl (fun w5 ew5 => ?_)
    refine lv_lstore_n (lv' := [(2, .long w5), (1, .int x4), (0, .int a1)]) X.1 X.2.1 dX2_logOf_22 rfl hl (by decide) rfl (fun ls hl => ?_)
    refine lv_iload_n X.1 X.2.1 dX2_logOf_23 rfl (lv_at hl 1 rfl) ?_
    refine lv_i2l (v := x4.toInt64) X.1 X.2.1 dX2_logOf_24 rfl ?_
    refine tnl (fun w6 ew6 => ?_)
    refine lv_lstore (lv' := [(4, .long w6), (2, .long w5), (1, .int x4), (0, .int a1)]) X.1 X.2.1 dX2_logOf_25 hl (by decide) rfl (fun ls hl => ?_)
    refine lv_iconst (v := 0) X.1 X.2.1 dX2_logOf_27 (by decide) ?_
    refine lv_istore (lv' := [(6, .int 0), (4, .long w6), (2, .long w5), (1, .int x4), (0, .int a1)]) X.1 X.2.1 dX2_logOf_28 hl (by decide) rfl (fun ls hl => ?_)
    have L1 : ∀ (n1 : Nat) (v0 : Int32) (v1 : Int32) (v2 : Int64) (v4 : Int64) (v6 : Int32)  (hm1 : (20 - v6.toInt : Int).toNat < n1) (hi1_0 : 0 ≤ v6.toInt), ∀ ls : Array Slot, lv_has ls 7 [(0, .int v0), (1, .int v1), (2, .long v2), (4, .long v4), (6, .int v6)] → W p l e ({ frames := 1, cells := 0, slots := 0, locals := 21 } : Room) s m ([.int a1] : List Value).toArray below meth c s.heap [] 0 0 (TSl below ([.int a1] : List Value).toArray s (f_X2_logOf_30 n1  v0 v1 v2 v4 v6)) (F0 m 30 ls []) := by
      intro n1
      induction n1 with
      | zero => intro v0 v1 v2 v4 v6 hm1 hi1_0; exact absurd hm1 (by omega)
      | succ n1 ih1 =>
        intro v0 v1 v2 v4 v6 hm1 hi1_0 ls hl
        rw [f_X2_logOf_30]
        refine lv_iload X.1 X.2.1 dX2_logOf_30 (lv_at hl 4 rfl) ?_
        refine lv_bipush (v := 20) X.1 X.2.1 dX2_logOf_32 (by decide) ?_
        refine bi_ge (tgt := 74) X dX2_logOf_34 (by decide) (fun c7 => ?_) (fun c7 => ?_)
        · skip
          have t8 : 20 ≤ v6.toInt := i_le c7
          refine lv_lload X.1 X.2.1 dX2_logOf_74 (lv_at hl 3 rfl) ?_
          exact rL X hr hlk dX2_logOf_76
        · skip
          have t9 : v6.toInt < 20 := i_nle c7
          refine lv_lload_n X.1 X.2.1 dX2_logOf_37 rfl (lv_at hl 2 rfl) ?_
          refine lv_lload_n X.1 X.2.1 dX2_logOf_38 rfl (lv_at hl 2 rfl) ?_
          refine lv_lmul X.1 X.2.1 dX2_logOf_39 ?_
          refine lv_bipush (v := 30) X.1 X.2.1 dX2_logOf_40 (by decide) ?_
          refine lv_lshr (v := ((v2 * v2) >>> ((30 : Int32).toInt64 &&& 63))) X.1 X.2.1 dX2_logOf_42 rfl ?_
          refine tnl (fun w10 ew10 => ?_)
          refine lv_lstore_n (lv' := [(2, .long w10), (0, .int v0), (1, .int v1), (4, .long v4), (6, .int v6)]) X.1 X.2.1 dX2_logOf_43 rfl hl (by decide) rfl (fun ls hl => ?_)
          refine lv_lload X.1 X.2.1 dX2_logOf_44 (lv_at hl 3 rfl) ?_
          refine lv_iconst (v := 1) X.1 X.2.1 dX2_logOf_46 (by decide) ?_
          refine lv_lshl (v := (v4 <<< ((1 : Int32).toInt64 &&& 63))) X.1 X.2.1 dX2_logOf_47 rfl ?_
          refine tnl (fun w11 ew11 => ?_)
          refine lv_lstore (lv' := [(4, .long w11), (2, .long w10), (0, .int v0), (1, .int v1), (6, .int v6)]) X.1 X.2.1 dX2_logOf_48 hl (by decide) rfl (fun ls hl => ?_)
          refine lv_lload_n X.1 X.2.1 dX2_logOf_50 rfl (lv_at hl 1 rfl) ?_
          refine lv_ldc2 (v := 2147483648) X.1 X.2.1 X.2.2.2.1 (X.2.2.2.2 (.constantLong RX2 36 (2147483648)) (by decide +kernel)) dX2_logOf_51 ?_
          refine bl_lt (tgt := 68) X dX2_logOf_54 dX2_logOf_55 (by decide) (fun c12 => ?_) (fun c12 => ?_)
          · skip
            refine lv_iinc (v := (v6 + 1)) (lv' := [(6, .int (v6 + 1)), (4, .long w11), (2, .long w10), (0, .int v0), (1, .int v1)]) X.1 X.2.1 dX2_logOf_68 hl (k := 4) rfl rfl (by decide) rfl (fun ls hl => ?_)
            refine lv_goto (tgt := 30) X.1 X.2.1 dX2_logOf_71 (by decide) ?_
            have q13 := inc_sp v6
            exact ih1 v0 v1 w10 w11 (v6 + 1) (by omega) (by omega)  ls (lv_sub hl [3, 4, 2, 1, 0] rfl)
          · skip
            refine lv_lload_n X.1 X.2.1 dX2_logOf_58 rfl (lv_at hl 1 rfl) ?_
            refine lv_iconst (v := 1) X.1 X.2.1 dX2_logOf_59 (by decide) ?_
            refine lv_lshr (v := (w10 >>> ((1 : Int32).toInt64 &&& 63))) X.1 X.2.1 dX2_logOf_60 rfl ?_
            refine tnl (fun w14 ew14 => ?_)
            refine lv_lstore_n (lv' := [(2, .long w14), (4, .long w11), (0, .int v0), (1, .int v1), (6, .int v6)]) X.1 X.2.1 dX2_logOf_61 rfl hl (by decide) rfl (fun ls hl => ?_)
            refine lv_lload X.1 X.2.1 dX2_logOf_62 (lv_at hl 1 rfl) ?_
            refine lv_lconst (v := 1) X.1 X.2.1 dX2_logOf_64 (by decide) ?_
            refine lv_ladd X.1 X.2.1 dX2_logOf_65 ?_
            refine tnl (fun w15 ew15 => ?_)
            refine lv_lstore (lv' := [(4, .long w15), (2, .long w14), (0, .int v0), (1, .int v1), (6, .int v6)]) X.1 X.2.1 dX2_logOf_66 hl (by decide) rfl (fun ls hl => ?_)
            refine lv_iinc (v := (v6 + 1)) (lv' := [(6, .int (v6 + 1)), (4, .long w15), (2, .long w14), (0, .int v0), (1, .int v1)]) X.1 X.2.1 dX2_logOf_68 hl (k := 4) rfl rfl (by decide) rfl (fun ls hl => ?_)
            refine lv_goto (tgt := 30) X.1 X.2.1 dX2_logOf_71 (by decide) ?_
            have q16 := inc_sp v6
            exact ih1 v0 v1 w14 w15 (v6 + 1) (by omega) (by omega)  ls (lv_sub hl [3, 4, 2, 1, 0] rfl)
    exact L1 21 a1 x4 w5 w6 0 (by decide) (by first | omega | decide)  ls (lv_sub hl [4, 3, 2, 1, 0] rfl)
  · skip
    have t17 : a1.toInt < 2 := i_nle c1
    refine lv_lconst (v := 0) X.1 X.2.1 dX2_logOf_5 (by decide) ?_
    exact rL X hr hlk dX2_logOf_6

def f_X2_gainOf_6 : Nat → Mem → Nat → Nat → Int32 → Int32 → Int64 → Int32 → Int64
  | 0, M, _, _, _, _, _, _ => 0
  | n1 + 1, M, v0, v1, v2, v3, v4, v6 => if v2 < v6 then v4 else (bnd (f_X7_documentAt M v1 v6) (fun r4 => bnd (f_X6_gradeOf M v0 r4) (fun r5 => bnd (f_X3_weightOf r5) (fun r6 => bnd (r6 <<< ((40 : Int32).toInt64 &&& 63)) (fun w7 => bnd (f_X2_logOf (v6 + 1)) (fun r8 => if r8 ≤ 0 then (f_X2_gainOf_6 n1 M v0 v1 v2 v3 v4 (v6 + 1)) else (if v3 = 0 then (bnd (v4 + (w7 / (r8 + 1))) (fun w15 => f_X2_gainOf_6 n1 M v0 v1 v2 v3 w15 (v6 + 1))) else (bnd (v4 + (((w7 + r8) - 1) / r8)) (fun w18 => f_X2_gainOf_6 n1 M v0 v1 v2 v3 w18 (v6 + 1))))))))))
def f_X2_gainOf (M : Mem) (i1 : Nat) (i2 : Nat) (a3 : Int32) (a4 : Int32) : Int64 := f_X2_gainOf_6 ((a3.toInt - 1 + 1 : Int).toNat + 1) M i1 i2 a3 a4 0 1
set_option maxRecDepth 100000 in
set_option maxHeartbeats 4000000 in
theorem c_X2_gainOf (l : Launch) (G : En) (A : Nat → Prop) (M : Mem) (i1 : Nat) (hi1 : 10 ≤ i1 ∧ i1 < 18) (i2 : Nat) (hi2 : 34 ≤ i2 ∧ i2 < 66) (a3 : Int32) (a4 : Int32) (hk : a3.toInt ≤ 16) : RdL true l yX2_gainOf wsX2_gainOf ({ frames := 2, cells := 0, slots := 0, locals := 47 }) G A M [.ref (G.2.2 i1), .ref (G.2.2 i2), .int a3, .int a4] (f_X2_gainOf M i1 i2 a3 a4) := by
  refine RdL.of (cc := cX2_gainOf) (maxL := 11) (ret := (some .long)) (own := RX2) (by decide) rfl rfl (Nat.le_of_ble_eq_true rfl) ?_
  intro p e s m below meth c X hw hr hlk ls hl
  have hl : lv_has ls 11 [(0, .ref (G.2.2 i1)), (1, .ref (G.2.2 i2)), (2, .int a3), (3, .int a4)] := hl
  unfold f_X2_gainOf
  refine lv_lconst (v := 0) X.1 X.2.1 dX2_gainOf_0 (by decide) ?_
  refine lv_lstore (lv' := [(4, .long 0), (0, .ref (G.2.2 i1)), (1, .ref (G.2.2 i2)), (2, .int a3), (3, .int a4)]) X.1 X.2.1 dX2_gainOf_1 hl (by decide) rfl (fun ls hl => ?_)
  refine lv_iconst (v := 1) X.1 X.2.1 dX2_gainOf_3 (by decide) ?_
  refine lv_istore (lv' := [(6, .int 1), (4, .long 0), (0, .ref (G.2.2 i1)), (1, .ref (G.2.2 i2)), (2, .int a3), (3, .int a4)]) X.1 X.2.1 dX2_gainOf_4 hl (by decide) rfl (fun ls hl => ?_)
  have L1 : ∀ (n1 : Nat) (v0 : Nat) (v1 : Nat) (v2 : Int32) (v3 : Int32) (v4 : Int64) (v6 : Int32) (hv0 : 10 ≤ v0 ∧ v0 < 18) (hv1 : 34 ≤ v1 ∧ v1 < 66) (hm1 : (v2.toInt - v6.toInt + 1 : Int).toNat < n1) (hi1_0 : v2.toInt ≤ 16) (hi1_1 : 1 ≤ v6.toInt), ∀ ls : Array Slot, lv_has ls 11 [(0, .ref (G.2.2 v0)), (1, .ref (G.2.2 v1)), (2, .int v2), (3, .int v3), (4, .long v4), (6, .int v6)] → W p l e ({ frames := 2, cells := 0, slots := 0, locals := 47 } : Room) s m ([.ref (G.2.2 i1), .ref (G.2.2 i2), .int a3, .int a4] : List Value).toArray below meth c s.heap [] 0 0 (TSl below ([.ref (G.2.2 i1), .ref (G.2.2 i2), .int a3, .int a4] : List Value).toArray s (f_X2_gainOf_6 n1 M v0 v1 v2 v3 v4 v6)) (F0 m 6 ls []) := by
    intro n1
    induction n1 with
    | zero => intro v0 v1 v2 v3 v4 v6 hv0 hv1 hm1 hi1_0 hi1_1; exact absurd hm1 (by omega)
    | succ n1 ih1 =>
      intro v0 v1 v2 v3 v4 v6 hv0 hv1 hm1 hi1_0 hi1_1 ls hl
      rw [f_X2_gainOf_6]
      refine lv_iload X.1 X.2.1 dX2_gainOf_6 (lv_at hl 5 rfl) ?_
      refine lv_iload_n X.1 X.2.1 dX2_gainOf_8 rfl (lv_at hl 2 rfl) ?_
      refine bi_gt (tgt := 81) X dX2_gainOf_9 (by decide) (fun c1 => ?_) (fun c1 => ?_)
      · skip
        have t2 : v2.toInt < v6.toInt := i_lt c1
        refine lv_lload X.1 X.2.1 dX2_gainOf_81 (lv_at hl 4 rfl) ?_
        exact rL X hr hlk dX2_gainOf_83
      · skip
        have t3 : v6.toInt ≤ v2.toInt := i_nlt c1
        refine lv_aload_n X.1 X.2.1 dX2_gainOf_12 rfl (lv_at hl 0 rfl) ?_
        refine lv_aload_n X.1 X.2.1 dX2_gainOf_13 rfl (lv_at hl 1 rfl) ?_
        refine lv_iload X.1 X.2.1 dX2_gainOf_14 (lv_at hl 5 rfl) ?_
        refine cVI [.int v6] [.ref (G.2.2 v0)] X hw (c_X7_documentAt l G A M v1 hv1 v6) (cwV 1 X.2.2.2.2 gX2_gainOf_X7_documentAt rfl rfl rfl (by decide +kernel) ⟨Nat.le_of_ble_eq_true rfl, Nat.le_of_ble_eq_true rfl⟩) (hw.recv (lt98 (by have h9 := hv1; omega)) (hk_Row hv1) rfl) rfl rfl hl.1 (Nat.le_of_ble_eq_true rfl) dX2_gainOf_16 ?_
        refine tni (fun r4 er4 => ?_)
        refine cVI [.int r4] [] X hw (c_X6_gradeOf l G A M v0 hv0 r4) (cwV 1 X.2.2.2.2 gX2_gainOf_X6_gradeOf rfl rfl rfl (by decide +kernel) ⟨Nat.le_of_ble_eq_true rfl, Nat.le_of_ble_eq_true rfl⟩) (hw.recv (lt98 (by have h9 := hv0; omega)) (hk_Q hv0) rfl) rfl rfl hl.1 (Nat.le_of_ble_eq_true rfl) dX2_gainOf_19 ?_
        refine tni (fun r5 er5 => ?_)
        refine cSL [.int r5] [] X hw (c_X3_weightOf l G A M r5) (va_cwS 1 X.2.2.2.2 gX2_gainOf_X3_weightOf rfl rfl rfl (by decide +kernel) ⟨Nat.le_of_ble_eq_true rfl, Nat.le_of_ble_eq_true rfl⟩)  rfl rfl hl.1 (Nat.le_of_ble_eq_true rfl) dX2_gainOf_22 ?_
        refine tnl (fun r6 er6 => ?_)
        refine lv_bipush (v := 40) X.1 X.2.1 dX2_gainOf_25 (by decide) ?_
        refine lv_lshl (v := (r6 <<< ((40 : Int32).toInt64 &&& 63))) X.1 X.2.1 dX2_gainOf_27 rfl ?_
        refine tnl (fun w7 ew7 => ?_)
        refine lv_lstore (lv' := [(7, .long w7), (0, .ref (G.2.2 v0)), (1, .ref (G.2.2 v1)), (2, .int v2), (3, .int v3), (4, .long v4), (6, .int v6)]) X.1 X.2.1 dX2_gainOf_28 hl (by decide) rfl (fun ls hl => ?_)
        refine lv_iload X.1 X.2.1 dX2_gainOf_30 (lv_at hl 6 rfl) ?_
        refine lv_iconst (v := 1) X.1 X.2.1 dX2_gainOf_32 (by decide) ?_
        refine lv_iadd X.1 X.2.1 dX2_gainOf_33 ?_
        refine cSL [.int (v6 + 1)] [] X hw (c_X2_logOf l G A M (v6 + 1)) (va_cwS 1 X.2.2.2.2 gX2_gainOf_X2_logOf rfl rfl rfl (by decide +kernel) ⟨Nat.le_of_ble_eq_true rfl, Nat.le_of_ble_eq_true rfl⟩)  rfl rfl hl.1 (Nat.le_of_ble_eq_true rfl) dX2_gainOf_34 ?_
        refine tnl (fun r8 er8 => ?_)
        refine lv_lstore (lv' := [(9, .long r8), (7, .long w7), (0, .ref (G.2.2 v0)), (1, .ref (G.2.2 v1)), (2, .int v2), (3, .int v3), (4, .long v4), (6, .int v6)]) X.1 X.2.1 dX2_gainOf_37 hl (by decide) rfl (fun ls hl => ?_)
        refine lv_lload X.1 X.2.1 dX2_gainOf_39 (lv_at hl 0 rfl) ?_
        refine lv_lconst (v := 0) X.1 X.2.1 dX2_gainOf_41 (by decide) ?_
        refine bl_le (tgt := 75) X dX2_gainOf_42 dX2_gainOf_43 (by decide) (fun c9 => ?_) (fun c9 => ?_)
        · skip
          have t10 : r8.toInt ≤ 0 := l_le c9
          refine lv_iinc (v := (v6 + 1)) (lv' := [(6, .int (v6 + 1)), (9, .long r8), (7, .long w7), (0, .ref (G.2.2 v0)), (1, .ref (G.2.2 v1)), (2, .int v2), (3, .int v3), (4, .long v4)]) X.1 X.2.1 dX2_gainOf_75 hl (k := 7) rfl rfl (by decide) rfl (fun ls hl => ?_)
          refine lv_goto (tgt := 6) X.1 X.2.1 dX2_gainOf_78 (by decide) ?_
          have q11 := inc_sp v6
          exact ih1 v0 v1 v2 v3 v4 (v6 + 1) hv0 hv1 (by omega) (by omega) (by omega)  ls (lv_sub hl [3, 4, 5, 6, 7, 0] rfl)
        · skip
          have t12 : 0 < r8.toInt := l_nle c9
          refine lv_lload X.1 X.2.1 dX2_gainOf_46 (lv_at hl 6 rfl) ?_
          refine lv_iload_n X.1 X.2.1 dX2_gainOf_48 rfl (lv_at hl 5 rfl) ?_
          refine bz_eq (tgt := 65) X dX2_gainOf_49 (by decide) (fun c13 => ?_) (fun c13 => ?_)
          · skip
            have t14 : v3.toInt = 0 := i_eq c13
            refine lv_lload X.1 X.2.1 dX2_gainOf_65 (lv_at hl 1 rfl) ?_
            refine lv_lload X.1 X.2.1 dX2_gainOf_67 (lv_at hl 0 rfl) ?_
            refine lv_lconst (v := 1) X.1 X.2.1 dX2_gainOf_69 (by decide) ?_
            refine lv_ladd X.1 X.2.1 dX2_gainOf_70 ?_
            refine lv_ldiv X.1 X.2.1 dX2_gainOf_71 (l_inc_nz (by omega)) ?_
            refine lv_ladd X.1 X.2.1 dX2_gainOf_72 ?_
            refine tnl (fun w15 ew15 => ?_)
            refine lv_lstore (lv' := [(4, .long w15), (9, .long r8), (7, .long w7), (0, .ref (G.2.2 v0)), (1, .ref (G.2.2 v1)), (2, .int v2), (3, .int v3), (6, .int v6)]) X.1 X.2.1 dX2_gainOf_73 hl (by decide) rfl (fun ls hl => ?_)
            refine lv_iinc (v := (v6 + 1)) (lv' := [(6, .int (v6 + 1)), (4, .long w15), (9, .long r8), (7, .long w7), (0, .ref (G.2.2 v0)), (1, .ref (G.2.2 v1)), (2, .int v2), (3, .int v3)]) X.1 X.2.1 dX2_gainOf_75 hl (k := 7) rfl rfl (by decide) rfl (fun ls hl => ?_)
            refine lv_goto (tgt := 6) X.1 X.2.1 dX2_gainOf_78 (by decide) ?_
            have q16 := inc_sp v6
            exact ih1 v0 v1 v2 v3 w15 (v6 + 1) hv0 hv1 (by omega) (by omega) (by omega)  ls (lv_sub hl [4, 5, 6, 7, 1, 0] rfl)
          · skip
            have t17 : ¬ v3.toInt = 0 := i_ne c13
            refine lv_lload X.1 X.2.1 dX2_gainOf_52 (lv_at hl 1 rfl) ?_
            refine lv_lload X.1 X.2.1 dX2_gainOf_54 (lv_at hl 0 rfl) ?_
            refine lv_ladd X.1 X.2.1 dX2_gainOf_56 ?_
            refine lv_lconst (v := 1) X.1 X.2.1 dX2_gainOf_57 (by decide) ?_
            refine lv_lsub X.1 X.2.1 dX2_gainOf_58 ?_
            refine lv_lload X.1 X.2.1 dX2_gainOf_59 (lv_at hl 0 rfl) ?_
            refine lv_ldiv X.1 X.2.1 dX2_gainOf_61 (l_nz (by omega)) ?_
            refine lv_goto (tgt := 72) X.1 X.2.1 dX2_gainOf_62 (by decide) ?_
            refine lv_ladd X.1 X.2.1 dX2_gainOf_72 ?_
            refine tnl (fun w18 ew18 => ?_)
            refine lv_lstore (lv' := [(4, .long w18), (9, .long r8), (7, .long w7), (0, .ref (G.2.2 v0)), (1, .ref (G.2.2 v1)), (2, .int v2), (3, .int v3), (6, .int v6)]) X.1 X.2.1 dX2_gainOf_73 hl (by decide) rfl (fun ls hl => ?_)
            refine lv_iinc (v := (v6 + 1)) (lv' := [(6, .int (v6 + 1)), (4, .long w18), (9, .long r8), (7, .long w7), (0, .ref (G.2.2 v0)), (1, .ref (G.2.2 v1)), (2, .int v2), (3, .int v3)]) X.1 X.2.1 dX2_gainOf_75 hl (k := 7) rfl rfl (by decide) rfl (fun ls hl => ?_)
            refine lv_goto (tgt := 6) X.1 X.2.1 dX2_gainOf_78 (by decide) ?_
            have q19 := inc_sp v6
            exact ih1 v0 v1 v2 v3 w18 (v6 + 1) hv0 hv1 (by omega) (by omega) (by omega)  ls (lv_sub hl [4, 5, 6, 7, 1, 0] rfl)
  exact L1 ((a3.toInt - 1 + 1 : Int).toNat + 1) i1 i2 a3 a4 0 1 hi1 hi2 (Nat.lt_succ_self _) (by first | omega | decide) (by first | omega | decide)  ls (lv_sub hl [2, 3, 4, 5, 1, 0] rfl)
