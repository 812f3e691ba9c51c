/-! 56.mgain -/
def f_X9_measure (M : Mem) (a1 : Int32) (a2 : Int32) (a3 : Int32) (a4 : Int32) : Int32 × Mem := bnd (f_X9_isRow M a1 a2) (fun r1 => if r1 = 0 then ((-1), M) else (if a3 < 0 then ((-2), M) else (if (8 : Int32) < a3 then ((-2), M) else (bnd (f_X9_isDeep a4) (fun r10 => if r10 = 0 then ((-2), M) else (bnd (f_X9_reckon M a1 a2 a3 a4) (fun M13 => bnd (f_X9_show M13) (fun M14 => (1, M14)))))))))
set_option maxRecDepth 100000 in
set_option maxHeartbeats 4000000 in
theorem c_X9_measure (l : Launch) (G : En) (A : Nat → Prop) (M : Mem) (a1 : Int32) (a2 : Int32) (a3 : Int32) (a4 : Int32) : WrI false l yX9_measure wsX9_measure ({ frames := 6, cells := 0, slots := 0, locals := 162 }) G A M [.ref (G.2.2 0), .int a1, .int a2, .int a3, .int a4] (f_X9_measure M a1 a2 a3 a4) := by
  refine WrI.of (cc := cX9_measure) (maxL := 5) (ret := (some .int)) (own := RX9) (by decide) rfl rfl (Nat.le_of_ble_eq_true rfl) ?_
  intro p e s m below meth c X hw hr hlk ls hl hS
  have hl : lv_has ls 5 [(0, .ref (G.2.2 0)), (1, .int a1), (2, .int a2), (3, .int a3), (4, .int a4)] := hl
  unfold f_X9_measure
  refine lv_aload_n X.1 X.2.1 dX9_measure_0 rfl (lv_at hl 0 rfl) ?_
  refine lv_iload_n X.1 X.2.1 dX9_measure_1 rfl (lv_at hl 1 rfl) ?_
  refine lv_iload_n X.1 X.2.1 dX9_measure_2 rfl (lv_at hl 2 rfl) ?_
  refine cVI [.int a1, .int a2] [] X hw (c_X9_isRow l G A M a1 a2) (cwV 2 X.2.2.2.2 gX9_measure_X9_isRow rfl rfl rfl (by decide +kernel) ⟨Nat.le_of_ble_eq_true rfl, Nat.le_of_ble_eq_true rfl⟩) (hw.recv (by decide) hm_MO rfl) rfl rfl hl.1 (Nat.le_of_ble_eq_true rfl) dX9_measure_3 ?_
  refine tni (fun r1 er1 => ?_)
  have zr1 := row_or er1
  refine bz_ne (tgt := 11) X dX9_measure_6 (by decide) (fun c2 => ?_) (fun c2 => ?_)
  · skip
    have t3 : ¬ r1.toInt = 0 := i_ne c2
    refine lv_iload_n X.1 X.2.1 dX9_measure_11 rfl (lv_at hl 3 rfl) ?_
    refine bz_lt (tgt := 29) X dX9_measure_12 (by decide) (fun c4 => ?_) (fun c4 => ?_)
    · skip
      have t5 : a3.toInt < 0 := i_lt c4
      refine lv_bipush (v := (-2)) X.1 X.2.1 dX9_measure_29 (by decide) ?_
      exact rQ X hr hlk hw hS dX9_measure_31
    · skip
      have t6 : 0 ≤ a3.toInt := i_nlt c4
      refine lv_iload_n X.1 X.2.1 dX9_measure_15 rfl (lv_at hl 3 rfl) ?_
      refine lv_bipush (v := 8) X.1 X.2.1 dX9_measure_16 (by decide) ?_
      refine bi_gt (tgt := 29) X dX9_measure_18 (by decide) (fun c7 => ?_) (fun c7 => ?_)
      · skip
        have t8 : 8 < a3.toInt := i_lt c7
        refine lv_bipush (v := (-2)) X.1 X.2.1 dX9_measure_29 (by decide) ?_
        exact rQ X hr hlk hw hS dX9_measure_31
      · skip
        have t9 : a3.toInt ≤ 8 := i_nlt c7
        refine lv_iload X.1 X.2.1 dX9_measure_21 (lv_at hl 4 rfl) ?_
        refine cSI [.int a4] [] X hw (c_X9_isDeep l G A M a4) (va_cwS 1 X.2.2.2.2 gX9_measure_X9_isDeep rfl rfl rfl (by decide +kernel) ⟨Nat.le_of_ble_eq_true rfl, Nat.le_of_ble_eq_true rfl⟩)  rfl rfl hl.1 (Nat.le_of_ble_eq_true rfl) dX9_measure_23 ?_
        refine tni (fun r10 er10 => ?_)
        have zr10 := deep_or er10
        refine bz_ne (tgt := 32) X dX9_measure_26 (by decide) (fun c11 => ?_) (fun c11 => ?_)
        · skip
          have t12 : ¬ r10.toInt = 0 := i_ne c11
          refine lv_aload_n X.1 X.2.1 dX9_measure_32 rfl (lv_at hl 0 rfl) ?_
          refine lv_iload_n X.1 X.2.1 dX9_measure_33 rfl (lv_at hl 1 rfl) ?_
          refine lv_iload_n X.1 X.2.1 dX9_measure_34 rfl (lv_at hl 2 rfl) ?_
          refine lv_iload_n X.1 X.2.1 dX9_measure_35 rfl (lv_at hl 3 rfl) ?_
          refine lv_iload X.1 X.2.1 dX9_measure_36 (lv_at hl 4 rfl) ?_
          refine cVW [.int a1, .int a2, .int a3, .int a4] [] X hw hS (c_X9_reckon l G A M a1 a2 a3 a4 (by omega) (by omega) (by omega)) (cwV 4 X.2.2.2.2 gX9_measure_X9_reckon rfl rfl rfl (by decide +kernel) ⟨Nat.le_of_ble_eq_true rfl, Nat.le_of_ble_eq_true rfl⟩) (hw.recv (by decide) hm_MO rfl) rfl rfl hl.1 (Nat.le_of_ble_eq_true rfl) dX9_measure_38 (fun H locs hw hS => ?_)
          refine tpb (fun M13 eM13 => ?_)
          rw [← eM13] at hw
          refine lv_aload_n X.1 X.2.1 dX9_measure_41 rfl (lv_at hl 0 rfl) ?_
          refine cVW [] [] X hw hS (c_X9_show l G A M13 ) (cwV 0 X.2.2.2.2 gX9_measure_X9_show rfl rfl rfl (by decide +kernel) ⟨Nat.le_of_ble_eq_true rfl, Nat.le_of_ble_eq_true rfl⟩) (hw.recv (by decide) hm_MO rfl) rfl rfl hl.1 (Nat.le_of_ble_eq_true rfl) dX9_measure_42 (fun H locs hw hS => ?_)
          refine tpb (fun M14 eM14 => ?_)
          rw [← eM14] at hw
          refine lv_iconst (v := 1) X.1 X.2.1 dX9_measure_45 (by decide) ?_
          exact rQ X hr hlk hw hS dX9_measure_46
        · skip
          have t15 : r10.toInt = 0 := i_eq c11
          refine lv_bipush (v := (-2)) X.1 X.2.1 dX9_measure_29 (by decide) ?_
          exact rQ X hr hlk hw hS dX9_measure_31
  · skip
    have t16 : r1.toInt = 0 := i_eq c2
    refine lv_iconst (v := (-1)) X.1 X.2.1 dX9_measure_9 (by decide) ?_
    exact rQ X hr hlk hw hS dX9_measure_10

def f_X9_log_31 : Nat → Int32 → Int32 → Int64 → Int64 → Int32 → Int64
  | 0, _, _, _, _, _ => 0
  | n2 + 1, v0, v1, v2, v4, v6 => if (20 : Int32) ≤ v6 then v4 else (bnd ((v2 * v2) >>> ((30 : Int32).toInt64 &&& 63)) (fun w8 => bnd (v4 <<< ((1 : Int32).toInt64 &&& 63)) (fun w9 => if w8 < 2147483648 then (f_X9_log_31 n2  v0 v1 w8 w9 (v6 + 1)) else (bnd (w9 ||| 1) (fun w12 => bnd (w8 >>> ((1 : Int32).toInt64 &&& 63)) (fun w13 => f_X9_log_31 n2  v0 v1 w13 w12 (v6 + 1)))))))
def f_X9_log_2 : Nat → Int32 → Int32 → Int64
  | 0, _, _ => 0
  | n1 + 1, v0, v1 => if (v0 >>> ((v1 + 1) &&& 31)) ≤ 0 then (bnd ((v0.toInt64 <<< ((30 : Int32).toInt64 &&& 63)) >>> (v1.toInt64 &&& 63)) (fun w3 => bnd v1.toInt64 (fun w4 => f_X9_log_31 21  v0 v1 w3 w4 0))) else (f_X9_log_2 n1  v0 (v1 + 1))
def f_X9_log (a1 : Int32) : Int64 := f_X9_log_2 32  a1 0
set_option maxRecDepth 100000 in
set_option maxHeartbeats 4000000 in
theorem c_X9_log (l : Launch) (G : En) (A : Nat → Prop) (M : Mem) (a1 : Int32) (hn : 2 ≤ a1.toInt ∧ a1.toInt ≤ 17) : RdL false l yX9_log wsX9_log ({ frames := 0, cells := 0, slots := 0, locals := 0 }) G A M [.int a1] (f_X9_log a1) := by
  refine RdL.of (cc := cX9_log) (maxL := 7) (ret := (some .long)) (own := RX9) (by decide) rfl rfl (Nat.le_of_ble_eq_true rfl) ?_
  intro p e s m below meth c X hw hr hlk ls hl
  have hl : lv_has ls 7 [(0, .int a1)] := hl
  unfold f_X9_log
  refine lv_iconst (v := 0) X.1 X.2.1 dX9_log_0 (by decide) ?_
  refine lv_istore_n (lv' := [(1, .int 0), (0, .int a1)]) X.1 X.2.1 dX9_log_1 rfl hl (by decide) rfl (fun ls hl => ?_)
  have L1 : ∀ (n1 : Nat) (v0 : Int32) (v1 : Int32)  (hm1 : (31 - v1.toInt : Int).toNat < n1) (hi1_0 : 0 ≤ v1.toInt) (hi1_1 : v1.toInt ≤ 30), ∀ ls : Array Slot, lv_has ls 7 [(0, .int v0), (1, .int v1)] → W p l e ({ frames := 0, cells := 0, slots := 0, locals := 0 } : Room) s m ([.int a1] : List Value).toArray below meth c s.heap [] 0 0 (TSl below ([.int a1] : List Value).toArray s (f_X9_log_2 n1  v0 v1)) (F0 m 2 ls []) := by
    intro n1
    induction n1 with
    | zero => intro v0 v1 hm1 hi1_0 hi1_1; exact absurd hm1 (by omega)
    | succ n1 ih1 =>
      intro v0 v1 hm1 hi1_0 hi1_1 ls hl
      rw [f_X9_log_2]
      refine lv_iload_n X.1 X.2.1 dX9_log_2 rfl (lv_at hl 0 rfl) ?_
      refine lv_iload_n X.1 X.2.1 dX9_log_3 rfl (lv_at hl 1 rfl) ?_
      refine lv_iconst (v := 1) X.1 X.2.1 dX9_log_4 (by decide) ?_
      refine lv_iadd X.1 X.2.1 dX9_log_5 ?_
      refine lv_ishr X.1 X.2.1 dX9_log_6 ?_
      refine bz_le (tgt := 16) X dX9_log_7 (by decide) (fun c1 => ?_) (fun c1 => ?_)
      · skip
        have t2 : (v0 >>> ((v1 + 1) &&& 31)).toInt ≤ 0 := i_le c1
        refine lv_iload_n X.1 X.2.1 dX9_log_16 rfl (lv_at hl 0 rfl) ?_
        refine lv_i2l (v := v0.toInt64) X.1 X.2.1 dX9_log_17 rfl ?_
        refine lv_bipush (v := 30) X.1 X.2.1 dX9_log_18 (by decide) ?_
        refine lv_lshl (v := (v0.toInt64 <<< ((30 : Int32).toInt64 &&& 63))) X.1 X.2.1 dX9_log_20 rfl ?_
        refine lv_iload_n X.1 X.2.1 dX9_log_21 rfl (lv_at hl 1 rfl) ?_
        refine lv_lshr (v := ((v0.toInt64 <<< ((30 : Int32).toInt64 &&& 63)) >>> (v1.toInt64 &&& 63))) X.1 X.2.1 dX9_log_22 rfl ?_
        refine tnl (fun w3 ew3 => ?_)
        refine lv_lstore_n (lv' := [(2, .long w3), (0, .int v0), (1, .int v1)]) X.1 X.2.1 dX9_log_23 rfl hl (by decide) rfl (fun ls hl => ?_)
        refine lv_iload_n X.1 X.2.1 dX9_log_24 rfl (lv_at hl 2 rfl) ?_
        refine lv_i2l (v := v1.toInt64) X.1 X.2.1 dX9_log_25 rfl ?_
        refine tnl (fun w4 ew4 => ?_)
        refine lv_lstore (lv' := [(4, .long w4), (2, .long w3), (0, .int v0), (1, .int v1)]) X.1 X.2.1 dX9_log_26 hl (by decide) rfl (fun ls hl => ?_)
        refine lv_iconst (v := 0) X.1 X.2.1 dX9_log_28 (by decide) ?_
        refine lv_istore (lv' := [(6, .int 0), (4, .long w4), (2, .long w3), (0, .int v0), (1, .int v1)]) X.1 X.2.1 dX9_log_29 hl (by decide) rfl (fun ls hl => ?_)
        have L2 : ∀ (n2 : Nat) (v0 : Int32) (v1 : Int32) (v2 : Int64) (v4 : Int64) (v6 : Int32)  (hm2 : (20 - v6.toInt : Int).toNat < n2) (hi2_0 : 0 ≤ v6.toInt), ∀ ls : Array Slot, lv_has ls 7 [(0, .int v0), (1, .int v1), (2, .long v2), (4, .long v4), (6, .int v6)] → W p l e ({ frames := 0, cells := 0, slots := 0, locals := 0 } : Room) s m ([.int a1] : List Value).toArray below meth c s.heap [] 0 0 (TSl below ([.int a1] : List Value).toArray s (f_X9_log_31 n2  v0 v1 v2 v4 v6)) (F0 m 31 ls []) := by
          intro n2
          induction n2 with
          | zero => intro v0 v1 v2 v4 v6 hm2 hi2_0; exact absurd hm2 (by omega)
          | succ n2 ih2 =>
            intro v0 v1 v2 v4 v6 hm2 hi2_0 ls hl
            rw [f_X9_log_31]
            refine lv_iload X.1 X.2.1 dX9_log_31 (lv_at hl 4 rfl) ?_
            refine lv_bipush (v := 20) X.1 X.2.1 dX9_log_33 (by decide) ?_
            refine bi_ge (tgt := 75) X dX9_log_35 (by decide) (fun c5 => ?_) (fun c5 => ?_)
            · skip
              have t6 : 20 ≤ v6.toInt := i_le c5
              refine lv_lload X.1 X.2.1 dX9_log_75 (lv_at hl 3 rfl) ?_
              exact rL X hr hlk dX9_log_77
            · skip
              have t7 : v6.toInt < 20 := i_nle c5
              refine lv_lload_n X.1 X.2.1 dX9_log_38 rfl (lv_at hl 2 rfl) ?_
              refine lv_lload_n X.1 X.2.1 dX9_log_39 rfl (lv_at hl 2 rfl) ?_
              refine lv_lmul X.1 X.2.1 dX9_log_40 ?_
              refine lv_bipush (v := 30) X.1 X.2.1 dX9_log_41 (by decide) ?_
              refine lv_lshr (v := ((v2 * v2) >>> ((30 : Int32).toInt64 &&& 63))) X.1 X.2.1 dX9_log_43 rfl ?_
              refine tnl (fun w8 ew8 => ?_)
              refine lv_lstore_n (lv' := [(2, .long w8), (0, .int v0), (1, .int v1), (4, .long v4), (6, .int v6)]) X.1 X.2.1 dX9_log_44 rfl hl (by decide) rfl (fun ls hl => ?_)
              refine lv_lload X.1 X.2.1 dX9_log_45 (lv_at hl 3 rfl) ?_
              refine lv_iconst (v := 1) X.1 X.2.1 dX9_log_47 (by decide) ?_
              refine lv_lshl (v := (v4 <<< ((1 : Int32).toInt64 &&& 63))) X.1 X.2.1 dX9_log_48 rfl ?_
              refine tnl (fun w9 ew9 => ?_)
              refine lv_lstore (lv' := [(4, .long w9), (2, .long w8), (0, .int v0), (1, .int v1), (6, .int v6)]) X.1 X.2.1 dX9_log_49 hl (by decide) rfl (fun ls hl => ?_)
              refine lv_lload_n X.1 X.2.1 dX9_log_51 rfl (lv_at hl 1 rfl) ?_
              refine lv_ldc2 (v := 2147483648) X.1 X.2.1 X.2.2.2.1 (X.2.2.2.2 (.constantLong RX9 137 (2147483648)) (by decide +kernel)) dX9_log_52 ?_
              refine bl_lt (tgt := 69) X dX9_log_55 dX9_log_56 (by decide) (fun c10 => ?_) (fun c10 => ?_)
              · skip
                refine lv_iinc (v := (v6 + 1)) (lv' := [(6, .int (v6 + 1)), (4, .long w9), (2, .long w8), (0, .int v0), (1, .int v1)]) X.1 X.2.1 dX9_log_69 hl (k := 4) rfl rfl (by decide) rfl (fun ls hl => ?_)
                refine lv_goto (tgt := 31) X.1 X.2.1 dX9_log_72 (by decide) ?_
                have q11 := inc_sp v6
                exact ih2 v0 v1 w8 w9 (v6 + 1) (by omega) (by omega)  ls (lv_sub hl [3, 4, 2, 1, 0] rfl)
              · skip
                refine lv_lload X.1 X.2.1 dX9_log_59 (lv_at hl 0 rfl) ?_
                refine lv_lconst (v := 1) X.1 X.2.1 dX9_log_61 (by decide) ?_
                refine lv_lor X.1 X.2.1 dX9_log_62 ?_
                refine tnl (fun w12 ew12 => ?_)
                refine lv_lstore (lv' := [(4, .long w12), (2, .long w8), (0, .int v0), (1, .int v1), (6, .int v6)]) X.1 X.2.1 dX9_log_63 hl (by decide) rfl (fun ls hl => ?_)
                refine lv_lload_n X.1 X.2.1 dX9_log_65 rfl (lv_at hl 1 rfl) ?_
                refine lv_iconst (v := 1) X.1 X.2.1 dX9_log_66 (by decide) ?_
                refine lv_lshr (v := (w8 >>> ((1 : Int32).toInt64 &&& 63))) X.1 X.2.1 dX9_log_67 rfl ?_
                refine tnl (fun w13 ew13 => ?_)
                refine lv_lstore_n (lv' := [(2, .long w13), (4, .long w12), (0, .int v0), (1, .int v1), (6, .int v6)]) X.1 X.2.1 dX9_log_68 rfl hl (by decide) rfl (fun ls hl => ?_)
                refine lv_iinc (v := (v6 + 1)) (lv' := [(6, .int (v6 + 1)), (2, .long w13), (4, .long w12), (0, .int v0), (1, .int v1)]) X.1 X.2.1 dX9_log_69 hl (k := 4) rfl rfl (by decide) rfl (fun ls hl => ?_)
                refine lv_goto (tgt := 31) X.1 X.2.1 dX9_log_72 (by decide) ?_
                have q14 := inc_sp v6
                exact ih2 v0 v1 w13 w12 (v6 + 1) (by omega) (by omega)  ls (lv_sub hl [3, 4, 1, 2, 0] rfl)
        exact L2 21 v0 v1 w3 w4 0 (by decide) (by first | omega | decide)  ls (lv_sub hl [3, 4, 2, 1, 0] rfl)
      · skip
        have t15 : 0 < (v0 >>> ((v1 + 1) &&& 31)).toInt := i_nle c1
        refine lv_iinc (v := (v1 + 1)) (lv' := [(1, .int (v1 + 1)), (0, .int v0)]) X.1 X.2.1 dX9_log_10 hl (k := 1) rfl rfl (by decide) rfl (fun ls hl => ?_)
        refine lv_goto (tgt := 2) X.1 X.2.1 dX9_log_13 (by decide) ?_
        have q16 := inc_sp v1
        have qs := shr31 (n := v0) (a := v1) (by omega) (by omega) (by assumption)
        exact ih1 v0 (v1 + 1) (by omega) (by omega) (by omega)  ls (lv_sub hl [1, 0] rfl)
  exact L1 32 a1 0 (by decide) (by first | omega | decide) (by first | omega | decide)  ls (lv_sub hl [1, 0] rfl)
theorem i_of {x : Int32} {k : Int} (y : Int32) (h : x.toInt = k) (hy : y.toInt = k) : x = y := Int32.toInt_inj.mp (h.trans hy.symm)
theorem log_ps {s : Int64} {a : Int32} (e : s = f_X9_log a) (h : 2 ≤ a.toInt ∧ a.toInt ≤ 17) : 1 ≤ s.toInt ∧ s.toInt ≤ 5000000 := by
  subst e
  have hc : a = 2 ∨ a = 3 ∨ a = 4 ∨ a = 5 ∨ a = 6 ∨ a = 7 ∨ a = 8 ∨ a = 9 ∨ a = 10 ∨ a = 11 ∨ a = 12 ∨ a = 13 ∨ a = 14 ∨ a = 15 ∨ a = 16 ∨ a = 17 := by
    have h2 : a.toInt = 2 ∨ a.toInt = 3 ∨ a.toInt = 4 ∨ a.toInt = 5 ∨ a.toInt = 6 ∨ a.toInt = 7 ∨ a.toInt = 8 ∨ a.toInt = 9 ∨ a.toInt = 10 ∨ a.toInt = 11 ∨ a.toInt = 12 ∨ a.toInt = 13 ∨ a.toInt = 14 ∨ a.toInt = 15 ∨ a.toInt = 16 ∨ a.toInt = 17 := by omega
    rcases h2 with h | h | h | h | h | h | h | h | h | h | h | h | h | h | h | h
    · exact Or.inl (i_of 2 h rfl)
    · exact Or.inr (Or.inl (i_of 3 h rfl))
    · exact Or.inr (Or.inr (Or.inl (i_of 4 h rfl)))
    · exact Or.inr (Or.inr (Or.inr (Or.inl (i_of 5 h rfl))))
    · exact Or.inr (Or.inr (Or.inr (Or.inr (Or.inl (i_of 6 h rfl)))))
    · exact Or.inr (Or.inr (Or.inr (Or.inr (Or.inr (Or.inl (i_of 7 h rfl))))))
    · exact Or.inr (Or.inr (Or.inr (Or.inr (Or.inr (Or.inr (Or.inl (i_of 8 h rfl)))))))
    · exact Or.inr (Or.inr (Or.inr (Or.inr (Or.inr (Or.inr (Or.inr (Or.inl (i_of 9 h rfl))))))))
    · exact Or.inr (Or.inr (Or.inr (Or.inr (Or.inr (Or.inr (Or.inr (Or.inr (Or.inl (i_of 10 h rfl)))))))))
    · exact Or.inr (Or.inr (Or.inr (Or.inr (Or.inr (Or.inr (Or.inr (Or.inr (Or.inr (Or.inl (i_of 11 h rfl))))))))))
    · exact Or.inr (Or.inr (Or.inr (Or.inr (Or.inr (Or.inr (Or.inr (Or.inr (Or.inr (Or.inr (Or.inl (i_of 12 h rfl)))))))))))
    · exact Or.inr (Or.inr (Or.inr (Or.inr (Or.inr (Or.inr (Or.inr (Or.inr (Or.inr (Or.inr (Or.inr (Or.inl (i_of 13 h rfl))))))))))))
    · exact Or.inr (Or.inr (Or.inr (Or.inr (Or.inr (Or.inr (Or.inr (Or.inr (Or.inr (Or.inr (Or.inr (Or.inr (Or.inl (i_of 14 h rfl)))))))))))))
    · exact Or.inr (Or.inr (Or.inr (Or.inr (Or.inr (Or.inr (Or.inr (Or.inr (Or.inr (Or.inr (Or.inr (Or.inr (Or.inr (Or.inl (i_of 15 h rfl))))))))))))))
    · exact Or.inr (Or.inr (Or.inr (Or.inr (Or.inr (Or.inr (Or.inr (Or.inr (Or.inr (Or.inr (Or.inr (Or.inr (Or.inr (Or.inr (Or.inl (i_of 16 h rfl)))))))))))))))
    · exact Or.inr (Or.inr (Or.inr (Or.inr (Or.inr (Or.inr (Or.inr (Or.inr (Or.inr (Or.inr (Or.inr (Or.inr (Or.inr (Or.inr (Or.inr (i_of 17 h rfl)))))))))))))))
  rcases hc with h | h | h | h | h | h | h | h | h | h | h | h | h | h | h | h <;> subst h <;> decide +kernel

def f_X9_gain_30 : Nat → Mem → Int32 → Int32 → Int32 → Int32 → Int64 → Int32 → Int64
  | 0, M, _, _, _, _, _, _ => 0
  | n1 + 1, M, v1, v2, v3, v4, v5, v7 => bnd (f_X9_first M v1 v2 v3) (fun r7 => if r7 ≤ v7 then v5 else (bnd (f_X9_doc M v1 v2 v7) (fun r11 => bnd (f_X9_isGood M v2 r11) (fun r12 => if r12 = 0 then (f_X9_gain_30 n1 M v1 v2 v3 v4 v5 (v7 + 1)) else (bnd (f_X9_gradeOf M v2 r11) (fun r17 => bnd (f_X9_worth r17) (fun r18 => bnd (r18.toInt64 <<< ((40 : Int32).toInt64 &&& 63)) (fun w19 => bnd (f_X9_log (v7 + 2)) (fun r20 => if v4 = 0 then (bnd (v5 + (w19 / (r20 + 1))) (fun w23 => f_X9_gain_30 n1 M v1 v2 v3 v4 w23 (v7 + 1))) else (bnd (v5 + (((w19 + r20) - 1) / r20)) (fun w26 => f_X9_gain_30 n1 M v1 v2 v3 v4 w26 (v7 + 1))))))))))))
def f_X9_gain (M : Mem) (a1 : Int32) (a2 : Int32) (a3 : Int32) (a4 : Int32) : Int64 := bnd (f_X9_isRow M a1 a2) (fun r1 => if r1 = 0 then (-1) else (bnd (f_X9_isDeep a3) (fun r4 => if r4 = 0 then (-2) else (f_X9_gain_30 17 M a1 a2 a3 a4 0 0))))
set_option maxRecDepth 100000 in
set_option maxHeartbeats 4000000 in
theorem c_X9_gain (l : Launch) (G : En) (A : Nat → Prop) (M : Mem) (a1 : Int32) (a2 : Int32) (a3 : Int32) (a4 : Int32) : RdL false l yX9_gain wsX9_gain ({ frames := 2, cells := 0, slots := 0, locals := 45 }) G A M [.ref (G.2.2 0), .int a1, .int a2, .int a3, .int a4] (f_X9_gain M a1 a2 a3 a4) := by
  refine RdL.of (cc := cX9_gain) (maxL := 13) (ret := (some .long)) (own := RX9) (by decide) rfl rfl (Nat.le_of_ble_eq_true rfl) ?_
  intro p e s m below meth c X hw hr hlk ls hl
  have hl : lv_has ls 13 [(0, .ref (G.2.2 0)), (1, .int a1), (2, .int a2), (3, .int a3), (4, .int a4)] := hl
  unfold f_X9_gain
  refine lv_aload_n X.1 X.2.1 dX9_gain_0 rfl (lv_at hl 0 rfl) ?_
  refine lv_iload_n X.1 X.2.1 dX9_gain_1 rfl (lv_at hl 1 rfl) ?_
  refine lv_iload_n X.1 X.2.1 dX9_gain_2 rfl (lv_at hl 2 rfl) ?_
  refine cVI [.int a1, .int a2] [] X hw (c_X9_isRow l G A M a1 a2) (cwV 2 X.2.2.2.2 gX9_gain_X9_isRow rfl rfl rfl (by decide +kernel) ⟨Nat.le_of_ble_eq_true rfl, Nat.le_of_ble_eq_true rfl⟩) (hw.recv (by decide) hm_MO rfl) rfl rfl hl.1 (Nat.le_of_ble_eq_true rfl) dX9_gain_3 ?_
  refine tni (fun r1 er1 => ?_)
  have zr1 := row_or er1
  refine bz_ne (tgt := 13) X dX9_gain_6 (by decide) (fun c2 => ?_) (fun c2 => ?_)
  · skip
    have t3 : ¬ r1.toInt = 0 := i_ne c2
    refine lv_iload_n X.1 X.2.1 dX9_gain_13 rfl (lv_at hl 3 rfl) ?_
    refine cSI [.int a3] [] X hw (c_X9_isDeep l G A M a3) (va_cwS 1 X.2.2.2.2 gX9_gain_X9_isDeep rfl rfl rfl (by decide +kernel) ⟨Nat.le_of_ble_eq_true rfl, Nat.le_of_ble_eq_true rfl⟩)  rfl rfl hl.1 (Nat.le_of_ble_eq_true rfl) dX9_gain_14 ?_
    refine tni (fun r4 er4 => ?_)
    have zr4 := deep_or er4
    refine bz_ne (tgt := 24) X dX9_gain_17 (by decide) (fun c5 => ?_) (fun c5 => ?_)
    · skip
      have t6 : ¬ r4.toInt = 0 := i_ne c5
      refine lv_lconst (v := 0) X.1 X.2.1 dX9_gain_24 (by decide) ?_
      refine lv_lstore (lv' := [(5, .long 0), (0, .ref (G.2.2 0)), (1, .int a1), (2, .int a2), (3, .int a3), (4, .int a4)]) X.1 X.2.1 dX9_gain_25 hl (by decide) rfl (fun ls hl => ?_)
      refine lv_iconst (v := 0) X.1 X.2.1 dX9_gain_27 (by decide) ?_
      refine lv_istore (lv' := [(7, .int 0), (5, .long 0), (0, .ref (G.2.2 0)), (1, .int a1), (2, .int a2), (3, .int a3), (4, .int a4)]) X.1 X.2.1 dX9_gain_28 hl (by decide) rfl (fun ls hl => ?_)
      have L1 : ∀ (n1 : Nat) (v1 : Int32) (v2 : Int32) (v3 : Int32) (v4 : Int32) (v5 : Int64) (v7 : Int32)  (hm1 : (16 - v7.toInt : Int).toNat < n1) (hi1_0 : 0 ≤ v7.toInt) (hi1_1 : 0 ≤ v1.toInt ∧ v1.toInt < 4) (hi1_2 : 0 ≤ v2.toInt ∧ v2.toInt < 8), ∀ ls : Array Slot, lv_has ls 13 [(0, .ref (G.2.2 0)), (1, .int v1), (2, .int v2), (3, .int v3), (4, .int v4), (5, .long v5), (7, .int v7)] → W p l e ({ frames := 2, cells := 0, slots := 0, locals := 45 } : Room) s m ([.ref (G.2.2 0), .int a1, .int a2, .int a3, .int a4] : List Value).toArray below meth c s.heap [] 0 0 (TSl below ([.ref (G.2.2 0), .int a1, .int a2, .int a3, .int a4] : List Value).toArray s (f_X9_gain_30 n1 M v1 v2 v3 v4 v5 v7)) (F0 m 30 ls []) := by
        intro n1
        induction n1 with
        | zero => intro v1 v2 v3 v4 v5 v7 hm1 hi1_0 hi1_1 hi1_2; exact absurd hm1 (by omega)
        | succ n1 ih1 =>
          intro v1 v2 v3 v4 v5 v7 hm1 hi1_0 hi1_1 hi1_2 ls hl
          rw [f_X9_gain_30]
          refine lv_iload X.1 X.2.1 dX9_gain_30 (lv_at hl 6 rfl) ?_
          refine lv_aload_n X.1 X.2.1 dX9_gain_32 rfl (lv_at hl 0 rfl) ?_
          refine lv_iload_n X.1 X.2.1 dX9_gain_33 rfl (lv_at hl 1 rfl) ?_
          refine lv_iload_n X.1 X.2.1 dX9_gain_34 rfl (lv_at hl 2 rfl) ?_
          refine lv_iload_n X.1 X.2.1 dX9_gain_35 rfl (lv_at hl 3 rfl) ?_
          refine cVI [.int v1, .int v2, .int v3] [.int v7] X hw (c_X9_first l G A M v1 v2 v3 (by omega) (by omega)) (cwV 3 X.2.2.2.2 gX9_gain_X9_first rfl rfl rfl (by decide +kernel) ⟨Nat.le_of_ble_eq_true rfl, Nat.le_of_ble_eq_true rfl⟩) (hw.recv (by decide) hm_MO rfl) rfl rfl hl.1 (Nat.le_of_ble_eq_true rfl) dX9_gain_36 ?_
          refine tni (fun r7 er7 => ?_)
          have zr7 := g_X9_first hw.2.2.2.2 er7 (by omega) (by omega)
          refine bi_ge (tgt := 123) X dX9_gain_39 (by decide) (fun c8 => ?_) (fun c8 => ?_)
          · skip
            have t9 : r7.toInt ≤ v7.toInt := i_le c8
            refine lv_lload X.1 X.2.1 dX9_gain_123 (lv_at hl 5 rfl) ?_
            exact rL X hr hlk dX9_gain_125
          · skip
            have t10 : v7.toInt < r7.toInt := i_nle c8
            refine lv_aload_n X.1 X.2.1 dX9_gain_42 rfl (lv_at hl 0 rfl) ?_
            refine lv_iload_n X.1 X.2.1 dX9_gain_43 rfl (lv_at hl 1 rfl) ?_
            refine lv_iload_n X.1 X.2.1 dX9_gain_44 rfl (lv_at hl 2 rfl) ?_
            refine lv_iload X.1 X.2.1 dX9_gain_45 (lv_at hl 6 rfl) ?_
            refine cVI [.int v1, .int v2, .int v7] [] X hw (c_X9_doc l G A M v1 v2 v7 (by omega) (by omega) (by omega)) (cwV 3 X.2.2.2.2 gX9_gain_X9_doc rfl rfl rfl (by decide +kernel) ⟨Nat.le_of_ble_eq_true rfl, Nat.le_of_ble_eq_true rfl⟩) (hw.recv (by decide) hm_MO rfl) rfl rfl hl.1 (Nat.le_of_ble_eq_true rfl) dX9_gain_47 ?_
            refine tni (fun r11 er11 => ?_)
            have zr11 := g_X9_doc hw.2.2.2.2 er11 (by omega) (by omega) (by omega)
            refine lv_istore (lv' := [(8, .int r11), (0, .ref (G.2.2 0)), (1, .int v1), (2, .int v2), (3, .int v3), (4, .int v4), (5, .long v5), (7, .int v7)]) X.1 X.2.1 dX9_gain_50 hl (by decide) rfl (fun ls hl => ?_)
            refine lv_aload_n X.1 X.2.1 dX9_gain_52 rfl (lv_at hl 1 rfl) ?_
            refine lv_iload_n X.1 X.2.1 dX9_gain_53 rfl (lv_at hl 3 rfl) ?_
            refine lv_iload X.1 X.2.1 dX9_gain_54 (lv_at hl 0 rfl) ?_
            refine cVI [.int v2, .int r11] [] X hw (c_X9_isGood l G A M v2 r11 (by omega) (by omega)) (cwV 2 X.2.2.2.2 gX9_gain_X9_isGood rfl rfl rfl (by decide +kernel) ⟨Nat.le_of_ble_eq_true rfl, Nat.le_of_ble_eq_true rfl⟩) (hw.recv (by decide) hm_MO rfl) rfl rfl hl.1 (Nat.le_of_ble_eq_true rfl) dX9_gain_56 ?_
            refine tni (fun r12 er12 => ?_)
            refine bz_eq (tgt := 117) X dX9_gain_59 (by decide) (fun c13 => ?_) (fun c13 => ?_)
            · skip
              have t14 : r12.toInt = 0 := i_eq c13
              refine lv_iinc (v := (v7 + 1)) (lv' := [(7, .int (v7 + 1)), (8, .int r11), (0, .ref (G.2.2 0)), (1, .int v1), (2, .int v2), (3, .int v3), (4, .int v4), (5, .long v5)]) X.1 X.2.1 dX9_gain_117 hl (k := 7) rfl rfl (by decide) rfl (fun ls hl => ?_)
              refine lv_goto (tgt := 30) X.1 X.2.1 dX9_gain_120 (by decide) ?_
              have q15 := inc_sp v7
              exact ih1 v1 v2 v3 v4 v5 (v7 + 1) (by omega) (by omega) (by omega) (by omega)  ls (lv_sub hl [2, 3, 4, 5, 6, 7, 0] rfl)
            · skip
              have t16 : ¬ r12.toInt = 0 := i_ne c13
              refine lv_aload_n X.1 X.2.1 dX9_gain_62 rfl (lv_at hl 1 rfl) ?_
              refine lv_iload_n X.1 X.2.1 dX9_gain_63 rfl (lv_at hl 3 rfl) ?_
              refine lv_iload X.1 X.2.1 dX9_gain_64 (lv_at hl 0 rfl) ?_
              refine cVI [.int v2, .int r11] [] X hw (c_X9_gradeOf l G A M v2 r11 (by omega) (by omega)) (cwV 2 X.2.2.2.2 gX9_gain_X9_gradeOf rfl rfl rfl (by decide +kernel) ⟨Nat.le_of_ble_eq_true rfl, Nat.le_of_ble_eq_true rfl⟩) (hw.recv (by decide) hm_MO rfl) rfl rfl hl.1 (Nat.le_of_ble_eq_true rfl) dX9_gain_66 ?_
              refine tni (fun r17 er17 => ?_)
              refine cSI [.int r17] [] X hw (c_X9_worth l G A M r17) (va_cwS 1 X.2.2.2.2 gX9_gain_X9_worth rfl rfl rfl (by decide +kernel) ⟨Nat.le_of_ble_eq_true rfl, Nat.le_of_ble_eq_true rfl⟩)  rfl rfl hl.1 (Nat.le_of_ble_eq_true rfl) dX9_gain_69 ?_
              refine tni (fun r18 er18 => ?_)
              refine lv_i2l (v := r18.toInt64) X.1 X.2.1 dX9_gain_72 rfl ?_
              refine lv_bipush (v := 40) X.1 X.2.1 dX9_gain_73 (by decide) ?_
              refine lv_lshl (v := (r18.toInt64 <<< ((40 : Int32).toInt64 &&& 63))) X.1 X.2.1 dX9_gain_75 rfl ?_
              refine tnl (fun w19 ew19 => ?_)
              refine lv_lstore (lv' := [(9, .long w19), (8, .int r11), (0, .ref (G.2.2 0)), (1, .int v1), (2, .int v2), (3, .int v3), (4, .int v4), (5, .long v5), (7, .int v7)]) X.1 X.2.1 dX9_gain_76 hl (by decide) rfl (fun ls hl => ?_)
              refine lv_iload X.1 X.2.1 dX9_gain_78 (lv_at hl 8 rfl) ?_
              refine lv_iconst (v := 2) X.1 X.2.1 dX9_gain_80 (by decide) ?_
              refine lv_iadd X.1 X.2.1 dX9_gain_81 ?_
              have q82 := i_add (x := v7) (y := 2) (by show _ ≤ v7.toInt + 2; omega) (by show v7.toInt + 2 < _; omega)
              have q82 : (v7 + 2).toInt = v7.toInt + 2 := q82
              refine cSL [.int (v7 + 2)] [] X hw (c_X9_log l G A M (v7 + 2) (by omega)) (va_cwS 1 X.2.2.2.2 gX9_gain_X9_log rfl rfl rfl (by decide +kernel) ⟨Nat.le_of_ble_eq_true rfl, Nat.le_of_ble_eq_true rfl⟩)  rfl rfl hl.1 (Nat.le_of_ble_eq_true rfl) dX9_gain_82 ?_
              refine tnl (fun r20 er20 => ?_)
              have zr20 := log_ps er20 (by omega)
              refine lv_lstore (lv' := [(11, .long r20), (9, .long w19), (8, .int r11), (0, .ref (G.2.2 0)), (1, .int v1), (2, .int v2), (3, .int v3), (4, .int v4), (5, .long v5), (7, .int v7)]) X.1 X.2.1 dX9_gain_85 hl (by decide) rfl (fun ls hl => ?_)
              refine lv_lload X.1 X.2.1 dX9_gain_87 (lv_at hl 8 rfl) ?_
              refine lv_iload X.1 X.2.1 dX9_gain_89 (lv_at hl 7 rfl) ?_
              refine bz_eq (tgt := 107) X dX9_gain_91 (by decide) (fun c21 => ?_) (fun c21 => ?_)
              · skip
                have t22 : v4.toInt = 0 := i_eq c21
                refine lv_lload X.1 X.2.1 dX9_gain_107 (lv_at hl 1 rfl) ?_
                refine lv_lload X.1 X.2.1 dX9_gain_109 (lv_at hl 0 rfl) ?_
                refine lv_lconst (v := 1) X.1 X.2.1 dX9_gain_111 (by decide) ?_
                refine lv_ladd X.1 X.2.1 dX9_gain_112 ?_
                refine lv_ldiv X.1 X.2.1 dX9_gain_113 (l_inc_nz (by omega)) ?_
                refine lv_ladd X.1 X.2.1 dX9_gain_114 ?_
                refine tnl (fun w23 ew23 => ?_)
                refine lv_lstore (lv' := [(5, .long w23), (11, .long r20), (9, .long w19), (8, .int r11), (0, .ref (G.2.2 0)), (1, .int v1), (2, .int v2), (3, .int v3), (4, .int v4), (7, .int v7)]) X.1 X.2.1 dX9_gain_115 hl (by decide) rfl (fun ls hl => ?_)
                refine lv_iinc (v := (v7 + 1)) (lv' := [(7, .int (v7 + 1)), (5, .long w23), (11, .long r20), (9, .long w19), (8, .int r11), (0, .ref (G.2.2 0)), (1, .int v1), (2, .int v2), (3, .int v3), (4, .int v4)]) X.1 X.2.1 dX9_gain_117 hl (k := 9) rfl rfl (by decide) rfl (fun ls hl => ?_)
                refine lv_goto (tgt := 30) X.1 X.2.1 dX9_gain_120 (by decide) ?_
                have q24 := inc_sp v7
                exact ih1 v1 v2 v3 v4 w23 (v7 + 1) (by omega) (by omega) (by omega) (by omega)  ls (lv_sub hl [5, 6, 7, 8, 9, 1, 0] rfl)
              · skip
                have t25 : ¬ v4.toInt = 0 := i_ne c21
                refine lv_lload X.1 X.2.1 dX9_gain_94 (lv_at hl 1 rfl) ?_
                refine lv_lload X.1 X.2.1 dX9_gain_96 (lv_at hl 0 rfl) ?_
                refine lv_ladd X.1 X.2.1 dX9_gain_98 ?_
                refine lv_lconst (v := 1) X.1 X.2.1 dX9_gain_99 (by decide) ?_
                refine lv_lsub X.1 X.2.1 dX9_gain_100 ?_
                refine lv_lload X.1 X.2.1 dX9_gain_101 (lv_at hl 0 rfl) ?_
                refine lv_ldiv X.1 X.2.1 dX9_gain_103 (l_nz (by omega)) ?_
                refine lv_goto (tgt := 114) X.1 X.2.1 dX9_gain_104 (by decide) ?_
                refine lv_ladd X.1 X.2.1 dX9_gain_114 ?_
                refine tnl (fun w26 ew26 => ?_)
                refine lv_lstore (lv' := [(5, .long w26), (11, .long r20), (9, .long w19), (8, .int r11), (0, .ref (G.2.2 0)), (1, .int v1), (2, .int v2), (3, .int v3), (4, .int v4), (7, .int v7)]) X.1 X.2.1 dX9_gain_115 hl (by decide) rfl (fun ls hl => ?_)
                refine lv_iinc (v := (v7 + 1)) (lv' := [(7, .int (v7 + 1)), (5, .long w26), (11, .long r20), (9, .long w19), (8, .int r11), (0, .ref (G.2.2 0)), (1, .int v1), (2, .int v2), (3, .int v3), (4, .int v4)]) X.1 X.2.1 dX9_gain_117 hl (k := 9) rfl rfl (by decide) rfl (fun ls hl => ?_)
                refine lv_goto (tgt := 30) X.1 X.2.1 dX9_gain_120 (by decide) ?_
                have q27 := inc_sp v7
                exact ih1 v1 v2 v3 v4 w26 (v7 + 1) (by omega) (by omega) (by omega) (by omega)  ls (lv_sub hl [5, 6, 7, 8, 9, 1, 0] rfl)
      exact L1 17 a1 a2 a3 a4 0 0 (by decide) (by first | omega | decide) (by first | omega | decide) (by first | omega | decide)  ls (lv_sub hl [2, 3, 4, 5, 6, 1, 0] rfl)
    · skip
      have t28 : r4.toInt = 0 := i_eq c5
      refine lv_ldc2 (v := (-2)) X.1 X.2.1 X.2.2.2.1 (X.2.2.2.2 (.constantLong RX9 141 ((-2))) (by decide +kernel)) dX9_gain_20 ?_
      exact rL X hr hlk dX9_gain_23
  · skip
    have t29 : r1.toInt = 0 := i_eq c2
    refine lv_ldc2 (v := (-1)) X.1 X.2.1 X.2.2.2.1 (X.2.2.2.2 (.constantLong RX9 139 ((-1))) (by decide +kernel)) dX9_gain_9 ?_
    exact rL X hr hlk dX9_gain_12
