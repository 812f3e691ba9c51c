/-! 12.numbers -/
def f_X8_commonDivisor_15 : Nat → Int64 → Int64 → Int64 → Int64 → Int32 → Int64
  | 0, _, _, _, _, _ => 1
  | n1 + 1, v0, v2, v4, v6, v8 => if (100 : Int32) ≤ v8 then (bnd (if 1 < v4 then v4 else 1) (fun r5 => r5)) else (if v6 = 0 then (bnd (if 1 < v4 then v4 else 1) (fun r8 => r8)) else (bnd (v4 - v4 / v6 * v6) (fun w9 => f_X8_commonDivisor_15 n1  v0 v2 v6 w9 (v8 + 1))))
def f_X8_commonDivisor (a1 : Int64) (a2 : Int64) : Int64 := bnd (if 0 < a1 then a1 else -a1) (fun r1 => bnd (if 0 < a2 then a2 else -a2) (fun r2 => f_X8_commonDivisor_15 101  a1 a2 r1 r2 0))
set_option maxRecDepth 100000 in
set_option maxHeartbeats 4000000 in
theorem c_X8_commonDivisor (l : Launch) (G : En) (A : Nat → Prop) (M : Mem) (a1 : Int64) (a2 : Int64) : RdL true l yX8_commonDivisor wsX8_commonDivisor ({ frames := 1, cells := 0, slots := 0, locals := 15 }) G A M [.long a1, .long a2] (f_X8_commonDivisor a1 a2) := by
  refine RdL.of (cc := cX8_commonDivisor) (maxL := 11) (ret := (some .long)) (own := RX8) (by decide) rfl rfl (Nat.le_of_ble_eq_true rfl) ?_
  intro p e s m below meth c X hw hr hlk ls hl
  have hl : lv_has ls 11 [(0, .long a1), (2, .long a2)] := hl
  unfold f_X8_commonDivisor
  refine lv_lload_n X.1 X.2.1 dX8_commonDivisor_0 rfl (lv_at hl 0 rfl) ?_
  refine va_mabs_long X.1 X.2.1 (X.2.2.1.trans hl.1.symm) X.2.2.2.1 (X.2.2.2.2 (.methodLink RX8 201 Lib.MathLoose.abs_long.x) (by decide +kernel)) (X.2.2.2.2 (.static Lib.MathLoose.abs_long.x) (by decide +kernel)) (X.2.2.2.2 (.initialized "java/lang/Math") (by decide +kernel)) (X.2.2.2.2 (.code Lib.MathLoose.abs_long.x Lib.MathLoose.abs_long.code 2 (some .long)) (by decide +kernel)) (Nat.le_of_ble_eq_true rfl) (Nat.le_of_ble_eq_true rfl) (Nat.zero_le _) (Nat.zero_le _) dX8_commonDivisor_1 ?_
  refine tnl (fun r1 er1 => ?_)
  refine lv_lstore (lv' := [(4, .long r1), (0, .long a1), (2, .long a2)]) X.1 X.2.1 dX8_commonDivisor_4 hl (by decide) rfl (fun ls hl => ?_)
  refine lv_lload_n X.1 X.2.1 dX8_commonDivisor_6 rfl (lv_at hl 2 rfl) ?_
  refine va_mabs_long X.1 X.2.1 (X.2.2.1.trans hl.1.symm) X.2.2.2.1 (X.2.2.2.2 (.methodLink RX8 201 Lib.MathLoose.abs_long.x) (by decide +kernel)) (X.2.2.2.2 (.static Lib.MathLoose.abs_long.x) (by decide +kernel)) (X.2.2.2.2 (.initialized "java/lang/Math") (by decide +kernel)) (X.2.2.2.2 (.code Lib.MathLoose.abs_long.x Lib.MathLoose.abs_long.code 2 (some .long)) (by decide +kernel)) (Nat.le_of_ble_eq_true rfl) (Nat.le_of_ble_eq_true rfl) (Nat.zero_le _) (Nat.zero_le _) dX8_commonDivisor_7 ?_
  refine tnl (fun r2 er2 => ?_)
  refine lv_lstore (lv' := [(6, .long r2), (4, .long r1), (0, .long a1), (2, .long a2)]) X.1 X.2.1 dX8_commonDivisor_10 hl (by decide) rfl (fun ls hl => ?_)
  refine lv_iconst (v := 0) X.1 X.2.1 dX8_commonDivisor_12 (by decide) ?_
  refine lv_istore (lv' := [(8, .int 0), (6, .long r2), (4, .long r1), (0, .long a1), (2, .long a2)]) X.1 X.2.1 dX8_commonDivisor_13 hl (by decide) rfl (fun ls hl => ?_)
  have L1 : ∀ (n1 : Nat) (v0 : Int64) (v2 : Int64) (v4 : Int64) (v6 : Int64) (v8 : Int32)  (hm1 : (100 - v8.toInt : Int).toNat < n1) (hi1_0 : 0 ≤ v8.toInt), ∀ ls : Array Slot, lv_has ls 11 [(0, .long v0), (2, .long v2), (4, .long v4), (6, .long v6), (8, .int v8)] → W p l e ({ frames := 1, cells := 0, slots := 0, locals := 15 } : Room) s m ([.long a1, .long a2] : List Value).toArray below meth c s.heap [] 0 0 (TSl below ([.long a1, .long a2] : List Value).toArray s (f_X8_commonDivisor_15 n1  v0 v2 v4 v6 v8)) (F0 m 15 ls []) := by
    intro n1
    induction n1 with
    | zero => intro v0 v2 v4 v6 v8 hm1 hi1_0; exact absurd hm1 (by omega)
    | succ n1 ih1 =>
      intro v0 v2 v4 v6 v8 hm1 hi1_0 ls hl
      rw [f_X8_commonDivisor_15]
      refine lv_iload X.1 X.2.1 dX8_commonDivisor_15 (lv_at hl 4 rfl) ?_
      refine lv_bipush (v := 100) X.1 X.2.1 dX8_commonDivisor_17 (by decide) ?_
      refine bi_ge (tgt := 50) X dX8_commonDivisor_19 (by decide) (fun c3 => ?_) (fun c3 => ?_)
      · skip
        have t4 : 100 ≤ v8.toInt := i_le c3
        refine lv_lload X.1 X.2.1 dX8_commonDivisor_50 (lv_at hl 2 rfl) ?_
        refine lv_lconst (v := 1) X.1 X.2.1 dX8_commonDivisor_52 (by decide) ?_
        refine va_mmax_long X.1 X.2.1 (X.2.2.1.trans hl.1.symm) X.2.2.2.1 (X.2.2.2.2 (.methodLink RX8 207 Lib.MathLoose.max_long.x) (by decide +kernel)) (X.2.2.2.2 (.static Lib.MathLoose.max_long.x) (by decide +kernel)) (X.2.2.2.2 (.initialized "java/lang/Math") (by decide +kernel)) (X.2.2.2.2 (.code Lib.MathLoose.max_long.x Lib.MathLoose.max_long.code 4 (some .long)) (by decide +kernel)) (Nat.le_of_ble_eq_true rfl) (Nat.le_of_ble_eq_true rfl) (Nat.zero_le _) (Nat.zero_le _) dX8_commonDivisor_53 ?_
        refine tnl (fun r5 er5 => ?_)
        exact rL X hr hlk dX8_commonDivisor_56
      · skip
        have t6 : v8.toInt < 100 := i_nle c3
        refine lv_lload X.1 X.2.1 dX8_commonDivisor_22 (lv_at hl 3 rfl) ?_
        refine lv_lconst (v := 0) X.1 X.2.1 dX8_commonDivisor_24 (by decide) ?_
        refine bl_eq (tgt := 50) X dX8_commonDivisor_25 dX8_commonDivisor_26 (by decide) (fun c7 => ?_) (fun c7 => ?_)
        · skip
          refine lv_lload X.1 X.2.1 dX8_commonDivisor_50 (lv_at hl 2 rfl) ?_
          refine lv_lconst (v := 1) X.1 X.2.1 dX8_commonDivisor_52 (by decide) ?_
          refine va_mmax_long X.1 X.2.1 (X.2.2.1.trans hl.1.symm) X.2.2.2.1 (X.2.2.2.2 (.methodLink RX8 207 Lib.MathLoose.max_long.x) (by decide +kernel)) (X.2.2.2.2 (.static Lib.MathLoose.max_long.x) (by decide +kernel)) (X.2.2.2.2 (.initialized "java/lang/Math") (by decide +kernel)) (X.2.2.2.2 (.code Lib.MathLoose.max_long.x Lib.MathLoose.max_long.code 4 (some .long)) (by decide +kernel)) (Nat.le_of_ble_eq_true rfl) (Nat.le_of_ble_eq_true rfl) (Nat.zero_le _) (Nat.zero_le _) dX8_commonDivisor_53 ?_
          refine tnl (fun r8 er8 => ?_)
          exact rL X hr hlk dX8_commonDivisor_56
        · skip
          refine lv_lload X.1 X.2.1 dX8_commonDivisor_29 (lv_at hl 2 rfl) ?_
          refine lv_lload X.1 X.2.1 dX8_commonDivisor_31 (lv_at hl 3 rfl) ?_
          refine lv_lrem X.1 X.2.1 dX8_commonDivisor_33 (by first | decide | assumption | omega) ?_
          refine tnl (fun w9 ew9 => ?_)
          refine lv_lstore (lv' := [(9, .long w9), (0, .long v0), (2, .long v2), (4, .long v4), (6, .long v6), (8, .int v8)]) X.1 X.2.1 dX8_commonDivisor_34 hl (by decide) rfl (fun ls hl => ?_)
          refine lv_lload X.1 X.2.1 dX8_commonDivisor_36 (lv_at hl 4 rfl) ?_
          refine lv_lstore (lv' := [(4, .long v6), (9, .long w9), (0, .long v0), (2, .long v2), (6, .long v6), (8, .int v8)]) X.1 X.2.1 dX8_commonDivisor_38 hl (by decide) rfl (fun ls hl => ?_)
          refine lv_lload X.1 X.2.1 dX8_commonDivisor_40 (lv_at hl 1 rfl) ?_
          refine lv_lstore (lv' := [(6, .long w9), (4, .long v6), (9, .long w9), (0, .long v0), (2, .long v2), (8, .int v8)]) X.1 X.2.1 dX8_commonDivisor_42 hl (by decide) rfl (fun ls hl => ?_)
          refine lv_iinc (v := (v8 + 1)) (lv' := [(8, .int (v8 + 1)), (6, .long w9), (4, .long v6), (9, .long w9), (0, .long v0), (2, .long v2)]) X.1 X.2.1 dX8_commonDivisor_44 hl (k := 5) rfl rfl (by decide) rfl (fun ls hl => ?_)
          refine lv_goto (tgt := 15) X.1 X.2.1 dX8_commonDivisor_47 (by decide) ?_
          have q10 := inc_sp v8
          exact ih1 v0 v2 v6 w9 (v8 + 1) (by omega) (by omega)  ls (lv_sub hl [4, 5, 2, 1, 0] rfl)
  exact L1 101 a1 a2 r1 r2 0 (by decide) (by first | omega | decide)  ls (lv_sub hl [3, 4, 2, 1, 0] rfl)
theorem cd_ne15 : ∀ (n : Nat) (v0 v2 v4 v6 : Int64) (v8 : Int32), ¬ f_X8_commonDivisor_15 n v0 v2 v4 v6 v8 = 0
  | 0, _, _, _, _, _ => by unfold f_X8_commonDivisor_15; decide
  | n + 1, v0, v2, v4, v6, v8 => by
    rw [f_X8_commonDivisor_15]
    unfold bnd
    split
    · split
      · rename_i h; intro e; have e : v4 = 0 := e; rw [e] at h; exact absurd h (by decide)
      · decide
    · split
      · split
        · rename_i h; intro e; have e : v4 = 0 := e; rw [e] at h; exact absurd h (by decide)
        · decide
      · exact cd_ne15 n _ _ _ _ _
theorem cd_ne (a b : Int64) : ¬ f_X8_commonDivisor a b = 0 := by
  unfold f_X8_commonDivisor bnd
  exact cd_ne15 _ _ _ _ _ _

def f_X8_commonMultiple (a1 : Int64) (a2 : Int64) : Int64 := bnd (f_X8_commonDivisor a1 a2) (fun r1 => ((a1 / r1) * a2))
set_option maxRecDepth 100000 in
set_option maxHeartbeats 4000000 in
theorem c_X8_commonMultiple (l : Launch) (G : En) (A : Nat → Prop) (M : Mem) (a1 : Int64) (a2 : Int64) : RdL true l yX8_commonMultiple wsX8_commonMultiple ({ frames := 2, cells := 0, slots := 0, locals := 45 }) G A M [.long a1, .long a2] (f_X8_commonMultiple a1 a2) := by
  refine RdL.of (cc := cX8_commonMultiple) (maxL := 4) (ret := (some .long)) (own := RX8) (by decide) rfl rfl (Nat.le_of_ble_eq_true rfl) ?_
  intro p e s m below meth c X hw hr hlk ls hl
  have hl : lv_has ls 4 [(0, .long a1), (2, .long a2)] := hl
  unfold f_X8_commonMultiple
  refine lv_lload_n X.1 X.2.1 dX8_commonMultiple_0 rfl (lv_at hl 0 rfl) ?_
  refine lv_lload_n X.1 X.2.1 dX8_commonMultiple_1 rfl (lv_at hl 0 rfl) ?_
  refine lv_lload_n X.1 X.2.1 dX8_commonMultiple_2 rfl (lv_at hl 1 rfl) ?_
  refine cSL [.long a1, .long a2] [.long a1] X hw (c_X8_commonDivisor l G A M a1 a2) (va_cwS 2 X.2.2.2.2 gX8_commonMultiple_X8_commonDivisor rfl rfl rfl (by decide +kernel) ⟨Nat.le_of_ble_eq_true rfl, Nat.le_of_ble_eq_true rfl⟩)  rfl rfl hl.1 (Nat.le_of_ble_eq_true rfl) dX8_commonMultiple_3 ?_
  refine tnl (fun r1 er1 => ?_)
  refine lv_ldiv X.1 X.2.1 dX8_commonMultiple_6 (ne_of er1 (cd_ne _ _)) ?_
  refine lv_lload_n X.1 X.2.1 dX8_commonMultiple_7 rfl (lv_at hl 1 rfl) ?_
  refine lv_lmul X.1 X.2.1 dX8_commonMultiple_8 ?_
  exact rL X hr hlk dX8_commonMultiple_9

def f_X1_above (M : Mem) (i0 : Nat) : Int64 := (M.2 i0 0)
set_option maxRecDepth 100000 in
set_option maxHeartbeats 4000000 in
theorem c_X1_above (l : Launch) (G : En) (A : Nat → Prop) (M : Mem) (i0 : Nat) (hi0 : 2 ≤ i0 ∧ i0 < 5) : RdL true l yX1_above wsX1_above ({ frames := 0, cells := 0, slots := 0, locals := 0 }) G A M [.ref (G.2.2 i0)] (f_X1_above M i0) := by
  refine RdL.of (cc := cX1_above) (maxL := 1) (ret := (some .long)) (own := RX1) (by decide) rfl rfl (Nat.le_of_ble_eq_true rfl) ?_
  intro p e s m below meth c X hw hr hlk ls hl
  have hl : lv_has ls 1 [(0, .ref (G.2.2 i0))] := hl
  unfold f_X1_above
  refine lv_aload_n X.1 X.2.1 dX1_above_0 rfl (lv_at hl 0 rfl) ?_
  refine gF X hw (lt98 (by have h9 := hi0; omega)) (hk_Fr hi0) rfl (by decide +kernel) 0 (by decide) (ref := "RankBench$Fraction") rfl (by decide +kernel) rfl dX1_above_1 ?_
  exact rL X hr hlk dX1_above_4

def f_X1_below (M : Mem) (i0 : Nat) : Int64 := (M.2 i0 1)
set_option maxRecDepth 100000 in
set_option maxHeartbeats 4000000 in
theorem c_X1_below (l : Launch) (G : En) (A : Nat → Prop) (M : Mem) (i0 : Nat) (hi0 : 2 ≤ i0 ∧ i0 < 5) : RdL true l yX1_below wsX1_below ({ frames := 0, cells := 0, slots := 0, locals := 0 }) G A M [.ref (G.2.2 i0)] (f_X1_below M i0) := by
  refine RdL.of (cc := cX1_below) (maxL := 1) (ret := (some .long)) (own := RX1) (by decide) rfl rfl (Nat.le_of_ble_eq_true rfl) ?_
  intro p e s m below meth c X hw hr hlk ls hl
  have hl : lv_has ls 1 [(0, .ref (G.2.2 i0))] := hl
  unfold f_X1_below
  refine lv_aload_n X.1 X.2.1 dX1_below_0 rfl (lv_at hl 0 rfl) ?_
  refine gF X hw (lt98 (by have h9 := hi0; omega)) (hk_Fr hi0) rfl (by decide +kernel) 1 (by decide) (ref := "RankBench$Fraction") rfl (by decide +kernel) rfl dX1_below_1 ?_
  exact rL X hr hlk dX1_below_4

def f_X1_become (M : Mem) (i0 : Nat) (a1 : Int64) (a2 : Int64) : Mem := if (1 : Int64) ≤ a2 then (bnd (f_X8_commonDivisor a1 a2) (fun r2 => bnd (a1 / r2) (fun w3 => bnd (ul M i0 0 w3) (fun M4 => bnd (a2 / r2) (fun w5 => bnd (ul M4 i0 1 w5) (fun M6 => M6)))))) else (bnd (ul M i0 0 0) (fun M7 => bnd (ul M7 i0 1 1) (fun M8 => M8)))
set_option maxRecDepth 100000 in
set_option maxHeartbeats 4000000 in
theorem c_X1_become (l : Launch) (G : En) (A : Nat → Prop) (M : Mem) (i0 : Nat) (hi0 : 2 ≤ i0 ∧ i0 < 5) (a1 : Int64) (a2 : Int64) : WrV true l yX1_become wsX1_become ({ frames := 2, cells := 0, slots := 0, locals := 45 }) G A M [.ref (G.2.2 i0), .long a1, .long a2] (f_X1_become M i0 a1 a2) := by
  refine WrV.of (cc := cX1_become) (maxL := 7) (ret := none) (own := RX1) (by decide) rfl rfl (Nat.le_of_ble_eq_true rfl) ?_
  intro p e s m below meth c X hw hr hlk ls hl hS
  have hl : lv_has ls 7 [(0, .ref (G.2.2 i0)), (1, .long a1), (3, .long a2)] := hl
  unfold f_X1_become
  refine lv_lload_n X.1 X.2.1 dX1_become_0 rfl (lv_at hl 2 rfl) ?_
  refine lv_lconst (v := 1) X.1 X.2.1 dX1_become_1 (by decide) ?_
  refine bl_ge (tgt := 17) X dX1_become_2 dX1_become_3 (by decide) (fun c1 => ?_) (fun c1 => ?_)
  · skip
    refine lv_lload_n X.1 X.2.1 dX1_become_17 rfl (lv_at hl 1 rfl) ?_
    refine lv_lload_n X.1 X.2.1 dX1_become_18 rfl (lv_at hl 2 rfl) ?_
    refine cNL [.long a1, .long a2] [] X hw (c_X8_commonDivisor l G A M a1 a2) ⟨va_cnB 2 X.2.2.2.2 gX1_become_X8_commonDivisor_n16 rfl rfl rfl (hw.2.2.2.1 rfl).1.2.1 (X.2.2.2.2 (.initialized RX8) (by decide +kernel)) (by decide +kernel) ⟨Nat.le_of_ble_eq_true rfl, Nat.le_of_ble_eq_true rfl⟩, X.2.2.2.2 (.static yX8_commonDivisor) (by decide +kernel), trivial⟩  rfl rfl hl.1 (Nat.le_of_ble_eq_true rfl) dX1_become_19 ?_
    refine tnl (fun r2 er2 => ?_)
    refine lv_lstore (lv' := [(5, .long r2), (0, .ref (G.2.2 i0)), (1, .long a1), (3, .long a2)]) X.1 X.2.1 dX1_become_22 hl (by decide) rfl (fun ls hl => ?_)
    refine lv_aload_n X.1 X.2.1 dX1_become_24 rfl (lv_at hl 1 rfl) ?_
    refine lv_lload_n X.1 X.2.1 dX1_become_25 rfl (lv_at hl 2 rfl) ?_
    refine lv_lload X.1 X.2.1 dX1_become_26 (lv_at hl 0 rfl) ?_
    refine lv_ldiv X.1 X.2.1 dX1_become_28 (ne_of er2 (cd_ne _ _)) ?_
    refine tnl (fun w3 ew3 => ?_)
    refine pF X hw hS (ul M i0 0 w3) (lt98 (by have h9 := hi0; omega)) (hk_Fr hi0) rfl (by decide +kernel) tyX1 tyX1_ok nmX1 0 (by decide) (ref := "RankBench$Fraction") rfl (by decide +kernel) rfl rfl rfl (Nat.le_of_ble_eq_true rfl) (by rw [hk_Fr hi0, ul_same]; rfl) (fun j hj => rfl) (fun j hj => ul_ne hj) hw.2.2.2.2 dX1_become_29 (fun H locs hw hS => ?_)
    refine tpb (fun M4 eM4 => ?_)
    rw [← eM4] at hw
    refine lv_aload_n X.1 X.2.1 dX1_become_32 rfl (lv_at hl 1 rfl) ?_
    refine lv_lload_n X.1 X.2.1 dX1_become_33 rfl (lv_at hl 3 rfl) ?_
    refine lv_lload X.1 X.2.1 dX1_become_34 (lv_at hl 0 rfl) ?_
    refine lv_ldiv X.1 X.2.1 dX1_become_36 (ne_of er2 (cd_ne _ _)) ?_
    refine tnl (fun w5 ew5 => ?_)
    refine pF X hw hS (ul M4 i0 1 w5) (lt98 (by have h9 := hi0; omega)) (hk_Fr hi0) rfl (by decide +kernel) tyX1 tyX1_ok nmX1 1 (by decide) (ref := "RankBench$Fraction") rfl (by decide +kernel) rfl rfl rfl (Nat.le_of_ble_eq_true rfl) (by rw [hk_Fr hi0, ul_same]; rfl) (fun j hj => rfl) (fun j hj => ul_ne hj) hw.2.2.2.2 dX1_become_37 (fun H locs hw hS => ?_)
    refine tpb (fun M6 eM6 => ?_)
    rw [← eM6] at hw
    exact rV X hr hlk hw hS dX1_become_40
  · skip
    refine lv_aload_n X.1 X.2.1 dX1_become_6 rfl (lv_at hl 0 rfl) ?_
    refine lv_lconst (v := 0) X.1 X.2.1 dX1_become_7 (by decide) ?_
    refine pF X hw hS (ul M i0 0 0) (lt98 (by have h9 := hi0; omega)) (hk_Fr hi0) rfl (by decide +kernel) tyX1 tyX1_ok nmX1 0 (by decide) (ref := "RankBench$Fraction") rfl (by decide +kernel) rfl rfl rfl (Nat.le_of_ble_eq_true rfl) (by rw [hk_Fr hi0, ul_same]; rfl) (fun j hj => rfl) (fun j hj => ul_ne hj) hw.2.2.2.2 dX1_become_8 (fun H locs hw hS => ?_)
    refine tpb (fun M7 eM7 => ?_)
    rw [← eM7] at hw
    refine lv_aload_n X.1 X.2.1 dX1_become_11 rfl (lv_at hl 0 rfl) ?_
    refine lv_lconst (v := 1) X.1 X.2.1 dX1_become_12 (by decide) ?_
    refine pF X hw hS (ul M7 i0 1 1) (lt98 (by have h9 := hi0; omega)) (hk_Fr hi0) rfl (by decide +kernel) tyX1 tyX1_ok nmX1 1 (by decide) (ref := "RankBench$Fraction") rfl (by decide +kernel) rfl rfl rfl (Nat.le_of_ble_eq_true rfl) (by rw [hk_Fr hi0, ul_same]; rfl) (fun j hj => rfl) (fun j hj => ul_ne hj) hw.2.2.2.2 dX1_become_13 (fun H locs hw hS => ?_)
    refine tpb (fun M8 eM8 => ?_)
    rw [← eM8] at hw
    exact rV X hr hlk hw hS dX1_become_16

def f_X1_add (M : Mem) (i0 : Nat) (i1 : Nat) (a2 : Int64) : Mem := if (M.2 i0 1) < 1 then M else (if (1 : Int64) ≤ (M.2 i1 1) then (bnd (f_X8_commonMultiple (M.2 i0 1) (M.2 i1 1)) (fun r6 => bnd (f_X1_become M i0 (((M.2 i0 0) * (r6 / (M.2 i0 1))) + ((a2 * (M.2 i1 0)) * (r6 / (M.2 i1 1)))) r6) (fun M7 => M7))) else M)
set_option maxRecDepth 100000 in
set_option maxHeartbeats 4000000 in
theorem c_X1_add (l : Launch) (G : En) (A : Nat → Prop) (M : Mem) (i0 : Nat) (hi0 : 2 ≤ i0 ∧ i0 < 5) (i1 : Nat) (hi1 : 2 ≤ i1 ∧ i1 < 5) (a2 : Int64) : WrV true l yX1_add wsX1_add ({ frames := 3, cells := 0, slots := 0, locals := 71 }) G A M [.ref (G.2.2 i0), .ref (G.2.2 i1), .long a2] (f_X1_add M i0 i1 a2) := by
  refine WrV.of (cc := cX1_add) (maxL := 6) (ret := none) (own := RX1) (by decide) rfl rfl (Nat.le_of_ble_eq_true rfl) ?_
  intro p e s m below meth c X hw hr hlk ls hl hS
  have hl : lv_has ls 6 [(0, .ref (G.2.2 i0)), (1, .ref (G.2.2 i1)), (2, .long a2)] := hl
  unfold f_X1_add
  refine lv_aload_n X.1 X.2.1 dX1_add_0 rfl (lv_at hl 0 rfl) ?_
  refine gF X hw (lt98 (by have h9 := hi0; omega)) (hk_Fr hi0) rfl (by decide +kernel) 1 (by decide) (ref := "RankBench$Fraction") rfl (by decide +kernel) rfl dX1_add_1 ?_
  refine lv_lconst (v := 1) X.1 X.2.1 dX1_add_4 (by decide) ?_
  refine bl_lt (tgt := 18) X dX1_add_5 dX1_add_6 (by decide) (fun c1 => ?_) (fun c1 => ?_)
  · skip
    have t2 : (M.2 i0 1).toInt < 1 := l_lt c1
    exact rV X hr hlk hw hS dX1_add_18
  · skip
    have t3 : 1 ≤ (M.2 i0 1).toInt := l_nlt c1
    refine lv_aload_n X.1 X.2.1 dX1_add_9 rfl (lv_at hl 1 rfl) ?_
    refine gF X hw (lt98 (by have h9 := hi1; omega)) (hk_Fr hi1) rfl (by decide +kernel) 1 (by decide) (ref := "RankBench$Fraction") rfl (by decide +kernel) rfl dX1_add_10 ?_
    refine lv_lconst (v := 1) X.1 X.2.1 dX1_add_13 (by decide) ?_
    refine bl_ge (tgt := 19) X dX1_add_14 dX1_add_15 (by decide) (fun c4 => ?_) (fun c4 => ?_)
    · skip
      have t5 : 1 ≤ (M.2 i1 1).toInt := l_le c4
      refine lv_aload_n X.1 X.2.1 dX1_add_19 rfl (lv_at hl 0 rfl) ?_
      refine gF X hw (lt98 (by have h9 := hi0; omega)) (hk_Fr hi0) rfl (by decide +kernel) 1 (by decide) (ref := "RankBench$Fraction") rfl (by decide +kernel) rfl dX1_add_20 ?_
      refine lv_aload_n X.1 X.2.1 dX1_add_23 rfl (lv_at hl 1 rfl) ?_
      refine gF X hw (lt98 (by have h9 := hi1; omega)) (hk_Fr hi1) rfl (by decide +kernel) 1 (by decide) (ref := "RankBench$Fraction") rfl (by decide +kernel) rfl dX1_add_24 ?_
      refine cNL [.long (M.2 i0 1), .long (M.2 i1 1)] [] X hw (c_X8_commonMultiple l G A M (M.2 i0 1) (M.2 i1 1)) ⟨va_cnB 2 X.2.2.2.2 gX1_add_X8_commonMultiple_n22 rfl rfl rfl (hw.2.2.2.1 rfl).1.2.2.1 (X.2.2.2.2 (.initialized RX8) (by decide +kernel)) (by decide +kernel) ⟨Nat.le_of_ble_eq_true rfl, Nat.le_of_ble_eq_true rfl⟩, X.2.2.2.2 (.static yX8_commonMultiple) (by decide +kernel), trivial⟩  rfl rfl hl.1 (Nat.le_of_ble_eq_true rfl) dX1_add_27 ?_
      refine tnl (fun r6 er6 => ?_)
      refine lv_lstore (lv' := [(4, .long r6), (0, .ref (G.2.2 i0)), (1, .ref (G.2.2 i1)), (2, .long a2)]) X.1 X.2.1 dX1_add_30 hl (by decide) rfl (fun ls hl => ?_)
      refine lv_aload_n X.1 X.2.1 dX1_add_32 rfl (lv_at hl 1 rfl) ?_
      refine lv_aload_n X.1 X.2.1 dX1_add_33 rfl (lv_at hl 1 rfl) ?_
      refine gF X hw (lt98 (by have h9 := hi0; omega)) (hk_Fr hi0) rfl (by decide +kernel) 0 (by decide) (ref := "RankBench$Fraction") rfl (by decide +kernel) rfl dX1_add_34 ?_
      refine lv_lload X.1 X.2.1 dX1_add_37 (lv_at hl 0 rfl) ?_
      refine lv_aload_n X.1 X.2.1 dX1_add_39 rfl (lv_at hl 1 rfl) ?_
      refine gF X hw (lt98 (by have h9 := hi0; omega)) (hk_Fr hi0) rfl (by decide +kernel) 1 (by decide) (ref := "RankBench$Fraction") rfl (by decide +kernel) rfl dX1_add_40 ?_
      refine lv_ldiv X.1 X.2.1 dX1_add_43 (l_nz (by omega)) ?_
      refine lv_lmul X.1 X.2.1 dX1_add_44 ?_
      refine lv_lload_n X.1 X.2.1 dX1_add_45 rfl (lv_at hl 3 rfl) ?_
      refine lv_aload_n X.1 X.2.1 dX1_add_46 rfl (lv_at hl 2 rfl) ?_
      refine gF X hw (lt98 (by have h9 := hi1; omega)) (hk_Fr hi1) rfl (by decide +kernel) 0 (by decide) (ref := "RankBench$Fraction") rfl (by decide +kernel) rfl dX1_add_47 ?_
      refine lv_lmul X.1 X.2.1 dX1_add_50 ?_
      refine lv_lload X.1 X.2.1 dX1_add_51 (lv_at hl 0 rfl) ?_
      refine lv_aload_n X.1 X.2.1 dX1_add_53 rfl (lv_at hl 2 rfl) ?_
      refine gF X hw (lt98 (by have h9 := hi1; omega)) (hk_Fr hi1) rfl (by decide +kernel) 1 (by decide) (ref := "RankBench$Fraction") rfl (by decide +kernel) rfl dX1_add_54 ?_
      refine lv_ldiv X.1 X.2.1 dX1_add_57 (l_nz (by omega)) ?_
      refine lv_lmul X.1 X.2.1 dX1_add_58 ?_
      refine lv_ladd X.1 X.2.1 dX1_add_59 ?_
      refine lv_lload X.1 X.2.1 dX1_add_60 (lv_at hl 0 rfl) ?_
      refine cVW [.long (((M.2 i0 0) * (r6 / (M.2 i0 1))) + ((a2 * (M.2 i1 0)) * (r6 / (M.2 i1 1)))), .long r6] [] X hw hS (c_X1_become l G A M i0 hi0 (((M.2 i0 0) * (r6 / (M.2 i0 1))) + ((a2 * (M.2 i1 0)) * (r6 / (M.2 i1 1)))) r6) (cwV 2 X.2.2.2.2 gX1_add_X1_become rfl rfl rfl (by decide +kernel) ⟨Nat.le_of_ble_eq_true rfl, Nat.le_of_ble_eq_true rfl⟩) (hw.recv (lt98 (by have h9 := hi0; omega)) (hk_Fr hi0) rfl) rfl rfl hl.1 (Nat.le_of_ble_eq_true rfl) dX1_add_62 (fun H locs hw hS => ?_)
      refine tpb (fun M7 eM7 => ?_)
      rw [← eM7] at hw
      exact rV X hr hlk hw hS dX1_add_65
    · skip
      have t8 : (M.2 i1 1).toInt < 1 := l_nle c4
      exact rV X hr hlk hw hS dX1_add_18
