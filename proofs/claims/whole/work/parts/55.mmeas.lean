/-! 55.mmeas -/
def f_X9_first (M : Mem) (a1 : Int32) (a2 : Int32) (a3 : Int32) : Int32 := bnd (f_X9_size M a1 a2) (fun r1 => if a3 ≤ r1 then a3 else (bnd (f_X9_size M a1 a2) (fun r5 => r5)))
set_option maxRecDepth 100000 in
set_option maxHeartbeats 4000000 in
theorem c_X9_first (l : Launch) (G : En) (A : Nat → Prop) (M : Mem) (a1 : Int32) (a2 : Int32) (a3 : Int32) (hra : 0 ≤ a1.toInt ∧ a1.toInt < 4) (hqa : 0 ≤ a2.toInt ∧ a2.toInt < 8) : RdI false l yX9_first wsX9_first ({ frames := 1, cells := 0, slots := 0, locals := 22 }) G A M [.ref (G.2.2 0), .int a1, .int a2, .int a3] (f_X9_first M a1 a2 a3) := by
  refine RdI.of (cc := cX9_first) (maxL := 4) (ret := (some .int)) (own := RX9) (by decide) rfl rfl (Nat.le_of_ble_eq_true rfl) ?_
  intro p e s m below meth c X hw hr hlk ls hl
  have hl : lv_has ls 4 [(0, .ref (G.2.2 0)), (1, .int a1), (2, .int a2), (3, .int a3)] := hl
  unfold f_X9_first
  refine lv_aload_n X.1 X.2.1 dX9_first_0 rfl (lv_at hl 0 rfl) ?_
  refine lv_iload_n X.1 X.2.1 dX9_first_1 rfl (lv_at hl 1 rfl) ?_
  refine lv_iload_n X.1 X.2.1 dX9_first_2 rfl (lv_at hl 2 rfl) ?_
  refine cVI [.int a1, .int a2] [] X hw (c_X9_size l G A M a1 a2 (by omega) (by omega)) (cwV 2 X.2.2.2.2 gX9_first_X9_size rfl rfl rfl (by decide +kernel) ⟨Nat.le_of_ble_eq_true rfl, Nat.le_of_ble_eq_true rfl⟩) (hw.recv (by decide) hm_MO rfl) rfl rfl hl.1 (Nat.le_of_ble_eq_true rfl) dX9_first_3 ?_
  refine tni (fun r1 er1 => ?_)
  have zr1 := g_X9_size hw.2.2.2.2 er1 (by omega) (by omega)
  refine lv_iload_n X.1 X.2.1 dX9_first_6 rfl (lv_at hl 3 rfl) ?_
  refine bi_ge (tgt := 19) X dX9_first_7 (by decide) (fun c2 => ?_) (fun c2 => ?_)
  · skip
    have t3 : a3.toInt ≤ r1.toInt := i_le c2
    refine lv_iload_n X.1 X.2.1 dX9_first_19 rfl (lv_at hl 3 rfl) ?_
    exact rI X hr hlk dX9_first_20
  · skip
    have t4 : r1.toInt < a3.toInt := i_nle c2
    refine lv_aload_n X.1 X.2.1 dX9_first_10 rfl (lv_at hl 0 rfl) ?_
    refine lv_iload_n X.1 X.2.1 dX9_first_11 rfl (lv_at hl 1 rfl) ?_
    refine lv_iload_n X.1 X.2.1 dX9_first_12 rfl (lv_at hl 2 rfl) ?_
    refine cVI [.int a1, .int a2] [] X hw (c_X9_size l G A M a1 a2 (by omega) (by omega)) (cwV 2 X.2.2.2.2 gX9_first_X9_size rfl rfl rfl (by decide +kernel) ⟨Nat.le_of_ble_eq_true rfl, Nat.le_of_ble_eq_true rfl⟩) (hw.recv (by decide) hm_MO rfl) rfl rfl hl.1 (Nat.le_of_ble_eq_true rfl) dX9_first_13 ?_
    refine tni (fun r5 er5 => ?_)
    have zr5 := g_X9_size hw.2.2.2.2 er5 (by omega) (by omega)
    refine lv_goto (tgt := 20) X.1 X.2.1 dX9_first_16 (by decide) ?_
    exact rI X hr hlk dX9_first_20
theorem g_X9_first {M : Mem} {s a1 a2 a3 : Int32} (h : okB false M) (e : s = f_X9_first M a1 a2 a3) (hr : 0 ≤ a1.toInt ∧ a1.toInt < 4) (hq : 0 ≤ a2.toInt ∧ a2.toInt < 8) : s.toInt ≤ 16 ∧ s.toInt ≤ a3.toInt ∧ (0 ≤ s.toInt ∨ s.toInt = a3.toInt) := by
  subst e
  unfold f_X9_first; dsimp only [bnd]
  have z := g_X9_size h (s := f_X9_size M a1 a2) rfl hr hq
  split
  · rename_i c
    have t := i_le c
    omega
  · rename_i c
    have t := i_nle c
    omega

def f_X9_goods_6 : Nat → Mem → Int32 → Int32 → Int32 → Int32 → Int32 → Int32
  | 0, M, _, _, _, _, _ => 0
  | n1 + 1, M, v1, v2, v3, v4, v5 => bnd (f_X9_first M v1 v2 v3) (fun r1 => if r1 ≤ v5 then v4 else (bnd (f_X9_doc M v1 v2 v5) (fun r5 => bnd (f_X9_isGood M v2 r5) (fun r6 => if r6 = 0 then (bnd (v4 + 0) (fun x9 => f_X9_goods_6 n1 M v1 v2 v3 x9 (v5 + 1))) else (bnd (v4 + 1) (fun x12 => f_X9_goods_6 n1 M v1 v2 v3 x12 (v5 + 1)))))))
def f_X9_goods (M : Mem) (a1 : Int32) (a2 : Int32) (a3 : Int32) : Int32 := f_X9_goods_6 17 M a1 a2 a3 0 0
set_option maxRecDepth 100000 in
set_option maxHeartbeats 4000000 in
theorem c_X9_goods (l : Launch) (G : En) (A : Nat → Prop) (M : Mem) (a1 : Int32) (a2 : Int32) (a3 : Int32) (hra : 0 ≤ a1.toInt ∧ a1.toInt < 4) (hqa : 0 ≤ a2.toInt ∧ a2.toInt < 8) : RdI false l yX9_goods wsX9_goods ({ frames := 2, cells := 0, slots := 0, locals := 45 }) G A M [.ref (G.2.2 0), .int a1, .int a2, .int a3] (f_X9_goods M a1 a2 a3) := by
  refine RdI.of (cc := cX9_goods) (maxL := 6) (ret := (some .int)) (own := RX9) (by decide) rfl rfl (Nat.le_of_ble_eq_true rfl) ?_
  intro p e s m below meth c X hw hr hlk ls hl
  have hl : lv_has ls 6 [(0, .ref (G.2.2 0)), (1, .int a1), (2, .int a2), (3, .int a3)] := hl
  unfold f_X9_goods
  refine lv_iconst (v := 0) X.1 X.2.1 dX9_goods_0 (by decide) ?_
  refine lv_istore (lv' := [(4, .int 0), (0, .ref (G.2.2 0)), (1, .int a1), (2, .int a2), (3, .int a3)]) X.1 X.2.1 dX9_goods_1 hl (by decide) rfl (fun ls hl => ?_)
  refine lv_iconst (v := 0) X.1 X.2.1 dX9_goods_3 (by decide) ?_
  refine lv_istore (lv' := [(5, .int 0), (4, .int 0), (0, .ref (G.2.2 0)), (1, .int a1), (2, .int a2), (3, .int a3)]) X.1 X.2.1 dX9_goods_4 hl (by decide) rfl (fun ls hl => ?_)
  have L1 : ∀ (n1 : Nat) (v1 : Int32) (v2 : Int32) (v3 : Int32) (v4 : Int32) (v5 : Int32)  (hm1 : (16 - v5.toInt : Int).toNat < n1) (hi1_0 : 0 ≤ v5.toInt) (hi1_1 : 0 ≤ v1.toInt ∧ v1.toInt < 4) (hi1_2 : 0 ≤ v2.toInt ∧ v2.toInt < 8), ∀ ls : Array Slot, lv_has ls 6 [(0, .ref (G.2.2 0)), (1, .int v1), (2, .int v2), (3, .int v3), (4, .int v4), (5, .int v5)] → W p l e ({ frames := 2, cells := 0, slots := 0, locals := 45 } : Room) s m ([.ref (G.2.2 0), .int a1, .int a2, .int a3] : List Value).toArray below meth c s.heap [] 0 0 (TSi below ([.ref (G.2.2 0), .int a1, .int a2, .int a3] : List Value).toArray s (f_X9_goods_6 n1 M v1 v2 v3 v4 v5)) (F0 m 6 ls []) := by
    intro n1
    induction n1 with
    | zero => intro v1 v2 v3 v4 v5 hm1 hi1_0 hi1_1 hi1_2; exact absurd hm1 (by omega)
    | succ n1 ih1 =>
      intro v1 v2 v3 v4 v5 hm1 hi1_0 hi1_1 hi1_2 ls hl
      rw [f_X9_goods_6]
      refine lv_iload X.1 X.2.1 dX9_goods_6 (lv_at hl 5 rfl) ?_
      refine lv_aload_n X.1 X.2.1 dX9_goods_8 rfl (lv_at hl 0 rfl) ?_
      refine lv_iload_n X.1 X.2.1 dX9_goods_9 rfl (lv_at hl 1 rfl) ?_
      refine lv_iload_n X.1 X.2.1 dX9_goods_10 rfl (lv_at hl 2 rfl) ?_
      refine lv_iload_n X.1 X.2.1 dX9_goods_11 rfl (lv_at hl 3 rfl) ?_
      refine cVI [.int v1, .int v2, .int v3] [.int v5] X hw (c_X9_first l G A M v1 v2 v3 (by omega) (by omega)) (cwV 3 X.2.2.2.2 gX9_goods_X9_first rfl rfl rfl (by decide +kernel) ⟨Nat.le_of_ble_eq_true rfl, Nat.le_of_ble_eq_true rfl⟩) (hw.recv (by decide) hm_MO rfl) rfl rfl hl.1 (Nat.le_of_ble_eq_true rfl) dX9_goods_12 ?_
      refine tni (fun r1 er1 => ?_)
      have zr1 := g_X9_first hw.2.2.2.2 er1 (by omega) (by omega)
      refine bi_ge (tgt := 50) X dX9_goods_15 (by decide) (fun c2 => ?_) (fun c2 => ?_)
      · skip
        have t3 : r1.toInt ≤ v5.toInt := i_le c2
        refine lv_iload X.1 X.2.1 dX9_goods_50 (lv_at hl 4 rfl) ?_
        exact rI X hr hlk dX9_goods_52
      · skip
        have t4 : v5.toInt < r1.toInt := i_nle c2
        refine lv_iload X.1 X.2.1 dX9_goods_18 (lv_at hl 4 rfl) ?_
        refine lv_aload_n X.1 X.2.1 dX9_goods_20 rfl (lv_at hl 0 rfl) ?_
        refine lv_iload_n X.1 X.2.1 dX9_goods_21 rfl (lv_at hl 2 rfl) ?_
        refine lv_aload_n X.1 X.2.1 dX9_goods_22 rfl (lv_at hl 0 rfl) ?_
        refine lv_iload_n X.1 X.2.1 dX9_goods_23 rfl (lv_at hl 1 rfl) ?_
        refine lv_iload_n X.1 X.2.1 dX9_goods_24 rfl (lv_at hl 2 rfl) ?_
        refine lv_iload X.1 X.2.1 dX9_goods_25 (lv_at hl 5 rfl) ?_
        refine cVI [.int v1, .int v2, .int v5] [.int v2, .ref (G.2.2 0), .int v4] X hw (c_X9_doc l G A M v1 v2 v5 (by omega) (by omega) (by omega)) (cwV 3 X.2.2.2.2 gX9_goods_X9_doc rfl rfl rfl (by decide +kernel) ⟨Nat.le_of_ble_eq_true rfl, Nat.le_of_ble_eq_true rfl⟩) (hw.recv (by decide) hm_MO rfl) rfl rfl hl.1 (Nat.le_of_ble_eq_true rfl) dX9_goods_27 ?_
        refine tni (fun r5 er5 => ?_)
        have zr5 := g_X9_doc hw.2.2.2.2 er5 (by omega) (by omega) (by omega)
        refine cVI [.int v2, .int r5] [.int v4] X hw (c_X9_isGood l G A M v2 r5 (by omega) (by omega)) (cwV 2 X.2.2.2.2 gX9_goods_X9_isGood rfl rfl rfl (by decide +kernel) ⟨Nat.le_of_ble_eq_true rfl, Nat.le_of_ble_eq_true rfl⟩) (hw.recv (by decide) hm_MO rfl) rfl rfl hl.1 (Nat.le_of_ble_eq_true rfl) dX9_goods_30 ?_
        refine tni (fun r6 er6 => ?_)
        refine bz_eq (tgt := 40) X dX9_goods_33 (by decide) (fun c7 => ?_) (fun c7 => ?_)
        · skip
          have t8 : r6.toInt = 0 := i_eq c7
          refine lv_iconst (v := 0) X.1 X.2.1 dX9_goods_40 (by decide) ?_
          refine lv_iadd X.1 X.2.1 dX9_goods_41 ?_
          refine tni (fun x9 ex9 => ?_)
          refine lv_istore (lv' := [(4, .int x9), (0, .ref (G.2.2 0)), (1, .int v1), (2, .int v2), (3, .int v3), (5, .int v5)]) X.1 X.2.1 dX9_goods_42 hl (by decide) rfl (fun ls hl => ?_)
          refine lv_iinc (v := (v5 + 1)) (lv' := [(5, .int (v5 + 1)), (4, .int x9), (0, .ref (G.2.2 0)), (1, .int v1), (2, .int v2), (3, .int v3)]) X.1 X.2.1 dX9_goods_44 hl (k := 5) rfl rfl (by decide) rfl (fun ls hl => ?_)
          refine lv_goto (tgt := 6) X.1 X.2.1 dX9_goods_47 (by decide) ?_
          have q10 := inc_sp v5
          exact ih1 v1 v2 v3 x9 (v5 + 1) (by omega) (by omega) (by omega) (by omega)  ls (lv_sub hl [2, 3, 4, 5, 1, 0] rfl)
        · skip
          have t11 : ¬ r6.toInt = 0 := i_ne c7
          refine lv_iconst (v := 1) X.1 X.2.1 dX9_goods_36 (by decide) ?_
          refine lv_goto (tgt := 41) X.1 X.2.1 dX9_goods_37 (by decide) ?_
          refine lv_iadd X.1 X.2.1 dX9_goods_41 ?_
          refine tni (fun x12 ex12 => ?_)
          have q13 := inc_sp v4
          rw [← ex12] at q13
          refine lv_istore (lv' := [(4, .int x12), (0, .ref (G.2.2 0)), (1, .int v1), (2, .int v2), (3, .int v3), (5, .int v5)]) X.1 X.2.1 dX9_goods_42 hl (by decide) rfl (fun ls hl => ?_)
          refine lv_iinc (v := (v5 + 1)) (lv' := [(5, .int (v5 + 1)), (4, .int x12), (0, .ref (G.2.2 0)), (1, .int v1), (2, .int v2), (3, .int v3)]) X.1 X.2.1 dX9_goods_44 hl (k := 5) rfl rfl (by decide) rfl (fun ls hl => ?_)
          refine lv_goto (tgt := 6) X.1 X.2.1 dX9_goods_47 (by decide) ?_
          have q14 := inc_sp v5
          exact ih1 v1 v2 v3 x12 (v5 + 1) (by omega) (by omega) (by omega) (by omega)  ls (lv_sub hl [2, 3, 4, 5, 1, 0] rfl)
  exact L1 17 a1 a2 a3 0 0 (by decide) (by first | omega | decide) (by first | omega | decide) (by first | omega | decide)  ls (lv_sub hl [2, 3, 4, 5, 1, 0] rfl)

def f_X9_unjudged_6 : Nat → Mem → Int32 → Int32 → Int32 → Int32 → Int32 → Int32
  | 0, M, _, _, _, _, _ => 0
  | n1 + 1, M, v1, v2, v3, v4, v5 => bnd (f_X9_first M v1 v2 v3) (fun r1 => if r1 ≤ v5 then v4 else (bnd (f_X9_doc M v1 v2 v5) (fun r5 => bnd (f_X9_gradeOf M v2 r5) (fun r6 => if (0 : Int32) ≤ r6 then (bnd (v4 + 0) (fun x9 => f_X9_unjudged_6 n1 M v1 v2 v3 x9 (v5 + 1))) else (bnd (v4 + 1) (fun x12 => f_X9_unjudged_6 n1 M v1 v2 v3 x12 (v5 + 1)))))))
def f_X9_unjudged (M : Mem) (a1 : Int32) (a2 : Int32) (a3 : Int32) : Int32 := f_X9_unjudged_6 17 M a1 a2 a3 0 0
set_option maxRecDepth 100000 in
set_option maxHeartbeats 4000000 in
theorem c_X9_unjudged (l : Launch) (G : En) (A : Nat → Prop) (M : Mem) (a1 : Int32) (a2 : Int32) (a3 : Int32) (hra : 0 ≤ a1.toInt ∧ a1.toInt < 4) (hqa : 0 ≤ a2.toInt ∧ a2.toInt < 8) : RdI false l yX9_unjudged wsX9_unjudged ({ frames := 2, cells := 0, slots := 0, locals := 45 }) G A M [.ref (G.2.2 0), .int a1, .int a2, .int a3] (f_X9_unjudged M a1 a2 a3) := by
  refine RdI.of (cc := cX9_unjudged) (maxL := 6) (ret := (some .int)) (own := RX9) (by decide) rfl rfl (Nat.le_of_ble_eq_true rfl) ?_
  intro p e s m below meth c X hw hr hlk ls hl
  have hl : lv_has ls 6 [(0, .ref (G.2.2 0)), (1, .int a1), (2, .int a2), (3, .int a3)] := hl
  unfold f_X9_unjudged
  refine lv_iconst (v := 0) X.1 X.2.1 dX9_unjudged_0 (by decide) ?_
  refine lv_istore (lv' := [(4, .int 0), (0, .ref (G.2.2 0)), (1, .int a1), (2, .int a2), (3, .int a3)]) X.1 X.2.1 dX9_unjudged_1 hl (by decide) rfl (fun ls hl => ?_)
  refine lv_iconst (v := 0) X.1 X.2.1 dX9_unjudged_3 (by decide) ?_
  refine lv_istore (lv' := [(5, .int 0), (4, .int 0), (0, .ref (G.2.2 0)), (1, .int a1), (2, .int a2), (3, .int a3)]) X.1 X.2.1 dX9_unjudged_4 hl (by decide) rfl (fun ls hl => ?_)
  have L1 : ∀ (n1 : Nat) (v1 : Int32) (v2 : Int32) (v3 : Int32) (v4 : Int32) (v5 : Int32)  (hm1 : (16 - v5.toInt : Int).toNat < n1) (hi1_0 : 0 ≤ v5.toInt) (hi1_1 : 0 ≤ v1.toInt ∧ v1.toInt < 4) (hi1_2 : 0 ≤ v2.toInt ∧ v2.toInt < 8), ∀ ls : Array Slot, lv_has ls 6 [(0, .ref (G.2.2 0)), (1, .int v1), (2, .int v2), (3, .int v3), (4, .int v4), (5, .int v5)] → W p l e ({ frames := 2, cells := 0, slots := 0, locals := 45 } : Room) s m ([.ref (G.2.2 0), .int a1, .int a2, .int a3] : List Value).toArray below meth c s.heap [] 0 0 (TSi below ([.ref (G.2.2 0), .int a1, .int a2, .int a3] : List Value).toArray s (f_X9_unjudged_6 n1 M v1 v2 v3 v4 v5)) (F0 m 6 ls []) := by
    intro n1
    induction n1 with
    | zero => intro v1 v2 v3 v4 v5 hm1 hi1_0 hi1_1 hi1_2; exact absurd hm1 (by omega)
    | succ n1 ih1 =>
      intro v1 v2 v3 v4 v5 hm1 hi1_0 hi1_1 hi1_2 ls hl
      rw [f_X9_unjudged_6]
      refine lv_iload X.1 X.2.1 dX9_unjudged_6 (lv_at hl 5 rfl) ?_
      refine lv_aload_n X.1 X.2.1 dX9_unjudged_8 rfl (lv_at hl 0 rfl) ?_
      refine lv_iload_n X.1 X.2.1 dX9_unjudged_9 rfl (lv_at hl 1 rfl) ?_
      refine lv_iload_n X.1 X.2.1 dX9_unjudged_10 rfl (lv_at hl 2 rfl) ?_
      refine lv_iload_n X.1 X.2.1 dX9_unjudged_11 rfl (lv_at hl 3 rfl) ?_
      refine cVI [.int v1, .int v2, .int v3] [.int v5] X hw (c_X9_first l G A M v1 v2 v3 (by omega) (by omega)) (cwV 3 X.2.2.2.2 gX9_unjudged_X9_first rfl rfl rfl (by decide +kernel) ⟨Nat.le_of_ble_eq_true rfl, Nat.le_of_ble_eq_true rfl⟩) (hw.recv (by decide) hm_MO rfl) rfl rfl hl.1 (Nat.le_of_ble_eq_true rfl) dX9_unjudged_12 ?_
      refine tni (fun r1 er1 => ?_)
      have zr1 := g_X9_first hw.2.2.2.2 er1 (by omega) (by omega)
      refine bi_ge (tgt := 50) X dX9_unjudged_15 (by decide) (fun c2 => ?_) (fun c2 => ?_)
      · skip
        have t3 : r1.toInt ≤ v5.toInt := i_le c2
        refine lv_iload X.1 X.2.1 dX9_unjudged_50 (lv_at hl 4 rfl) ?_
        exact rI X hr hlk dX9_unjudged_52
      · skip
        have t4 : v5.toInt < r1.toInt := i_nle c2
        refine lv_iload X.1 X.2.1 dX9_unjudged_18 (lv_at hl 4 rfl) ?_
        refine lv_aload_n X.1 X.2.1 dX9_unjudged_20 rfl (lv_at hl 0 rfl) ?_
        refine lv_iload_n X.1 X.2.1 dX9_unjudged_21 rfl (lv_at hl 2 rfl) ?_
        refine lv_aload_n X.1 X.2.1 dX9_unjudged_22 rfl (lv_at hl 0 rfl) ?_
        refine lv_iload_n X.1 X.2.1 dX9_unjudged_23 rfl (lv_at hl 1 rfl) ?_
        refine lv_iload_n X.1 X.2.1 dX9_unjudged_24 rfl (lv_at hl 2 rfl) ?_
        refine lv_iload X.1 X.2.1 dX9_unjudged_25 (lv_at hl 5 rfl) ?_
        refine cVI [.int v1, .int v2, .int v5] [.int v2, .ref (G.2.2 0), .int v4] X hw (c_X9_doc l G A M v1 v2 v5 (by omega) (by omega) (by omega)) (cwV 3 X.2.2.2.2 gX9_unjudged_X9_doc rfl rfl rfl (by decide +kernel) ⟨Nat.le_of_ble_eq_true rfl, Nat.le_of_ble_eq_true rfl⟩) (hw.recv (by decide) hm_MO rfl) rfl rfl hl.1 (Nat.le_of_ble_eq_true rfl) dX9_unjudged_27 ?_
        refine tni (fun r5 er5 => ?_)
        have zr5 := g_X9_doc hw.2.2.2.2 er5 (by omega) (by omega) (by omega)
        refine cVI [.int v2, .int r5] [.int v4] X hw (c_X9_gradeOf l G A M v2 r5 (by omega) (by omega)) (cwV 2 X.2.2.2.2 gX9_unjudged_X9_gradeOf rfl rfl rfl (by decide +kernel) ⟨Nat.le_of_ble_eq_true rfl, Nat.le_of_ble_eq_true rfl⟩) (hw.recv (by decide) hm_MO rfl) rfl rfl hl.1 (Nat.le_of_ble_eq_true rfl) dX9_unjudged_30 ?_
        refine tni (fun r6 er6 => ?_)
        refine bz_ge (tgt := 40) X dX9_unjudged_33 (by decide) (fun c7 => ?_) (fun c7 => ?_)
        · skip
          have t8 : 0 ≤ r6.toInt := i_le c7
          refine lv_iconst (v := 0) X.1 X.2.1 dX9_unjudged_40 (by decide) ?_
          refine lv_iadd X.1 X.2.1 dX9_unjudged_41 ?_
          refine tni (fun x9 ex9 => ?_)
          refine lv_istore (lv' := [(4, .int x9), (0, .ref (G.2.2 0)), (1, .int v1), (2, .int v2), (3, .int v3), (5, .int v5)]) X.1 X.2.1 dX9_unjudged_42 hl (by decide) rfl (fun ls hl => ?_)
          refine lv_iinc (v := (v5 + 1)) (lv' := [(5, .int (v5 + 1)), (4, .int x9), (0, .ref (G.2.2 0)), (1, .int v1), (2, .int v2), (3, .int v3)]) X.1 X.2.1 dX9_unjudged_44 hl (k := 5) rfl rfl (by decide) rfl (fun ls hl => ?_)
          refine lv_goto (tgt := 6) X.1 X.2.1 dX9_unjudged_47 (by decide) ?_
          have q10 := inc_sp v5
          exact ih1 v1 v2 v3 x9 (v5 + 1) (by omega) (by omega) (by omega) (by omega)  ls (lv_sub hl [2, 3, 4, 5, 1, 0] rfl)
        · skip
          have t11 : r6.toInt < 0 := i_nle c7
          refine lv_iconst (v := 1) X.1 X.2.1 dX9_unjudged_36 (by decide) ?_
          refine lv_goto (tgt := 41) X.1 X.2.1 dX9_unjudged_37 (by decide) ?_
          refine lv_iadd X.1 X.2.1 dX9_unjudged_41 ?_
          refine tni (fun x12 ex12 => ?_)
          have q13 := inc_sp v4
          rw [← ex12] at q13
          refine lv_istore (lv' := [(4, .int x12), (0, .ref (G.2.2 0)), (1, .int v1), (2, .int v2), (3, .int v3), (5, .int v5)]) X.1 X.2.1 dX9_unjudged_42 hl (by decide) rfl (fun ls hl => ?_)
          refine lv_iinc (v := (v5 + 1)) (lv' := [(5, .int (v5 + 1)), (4, .int x12), (0, .ref (G.2.2 0)), (1, .int v1), (2, .int v2), (3, .int v3)]) X.1 X.2.1 dX9_unjudged_44 hl (k := 5) rfl rfl (by decide) rfl (fun ls hl => ?_)
          refine lv_goto (tgt := 6) X.1 X.2.1 dX9_unjudged_47 (by decide) ?_
          have q14 := inc_sp v5
          exact ih1 v1 v2 v3 x12 (v5 + 1) (by omega) (by omega) (by omega) (by omega)  ls (lv_sub hl [2, 3, 4, 5, 1, 0] rfl)
  exact L1 17 a1 a2 a3 0 0 (by decide) (by first | omega | decide) (by first | omega | decide) (by first | omega | decide)  ls (lv_sub hl [2, 3, 4, 5, 1, 0] rfl)

def f_X9_average_12 : Nat → Mem → Int32 → Int32 → Int32 → Int32 → Int32 → Mem
  | 0, M, _, _, _, _, _ => M
  | n1 + 1, M, v1, v2, v3, v4, v5 => bnd (f_X9_first M v1 v2 v3) (fun r2 => if r2 ≤ v5 then (bnd (f_X9_rs M v2) (fun r5 => bnd (f_X9_over M r5.toInt64) (fun M6 => M6))) else (bnd (f_X9_doc M v1 v2 v5) (fun r8 => bnd (f_X9_isGood M v2 r8) (fun r9 => if r9 = 0 then (f_X9_average_12 n1 M v1 v2 v3 v4 (v5 + 1)) else (bnd (f_X9_plus M ((v4 + 1).toInt64) (v5.toInt64 + 1)) (fun M14 => f_X9_average_12 n1 M14 v1 v2 v3 (v4 + 1) (v5 + 1)))))))
def f_X9_average (M : Mem) (a1 : Int32) (a2 : Int32) (a3 : Int32) : Mem := bnd (f_X9_make M 0 1) (fun M1 => f_X9_average_12 17 M1 a1 a2 a3 0 0)
set_option maxRecDepth 100000 in
set_option maxHeartbeats 4000000 in
theorem c_X9_average (l : Launch) (G : En) (A : Nat → Prop) (M : Mem) (a1 : Int32) (a2 : Int32) (a3 : Int32) (hra : 0 ≤ a1.toInt ∧ a1.toInt < 4) (hqa : 0 ≤ a2.toInt ∧ a2.toInt < 8) : WrV false l yX9_average wsX9_average ({ frames := 3, cells := 0, slots := 0, locals := 81 }) G A M [.ref (G.2.2 0), .int a1, .int a2, .int a3] (f_X9_average M a1 a2 a3) := by
  refine WrV.of (cc := cX9_average) (maxL := 6) (ret := none) (own := RX9) (by decide) rfl rfl (Nat.le_of_ble_eq_true rfl) ?_
  intro p e s m below meth c X hw hr hlk ls hl hS
  have hl : lv_has ls 6 [(0, .ref (G.2.2 0)), (1, .int a1), (2, .int a2), (3, .int a3)] := hl
  unfold f_X9_average
  refine lv_aload_n X.1 X.2.1 dX9_average_0 rfl (lv_at hl 0 rfl) ?_
  refine lv_lconst (v := 0) X.1 X.2.1 dX9_average_1 (by decide) ?_
  refine lv_lconst (v := 1) X.1 X.2.1 dX9_average_2 (by decide) ?_
  refine cVW [.long 0, .long 1] [] X hw hS (c_X9_make l G A M 0 1) (cwV 2 X.2.2.2.2 gX9_average_X9_make rfl rfl rfl (by decide +kernel) ⟨Nat.le_of_ble_eq_true rfl, Nat.le_of_ble_eq_true rfl⟩) (hw.recv (by decide) hm_MO rfl) rfl rfl hl.1 (Nat.le_of_ble_eq_true rfl) dX9_average_3 (fun H locs hw hS => ?_)
  refine tpb (fun M1 eM1 => ?_)
  rw [← eM1] at hw
  refine lv_iconst (v := 0) X.1 X.2.1 dX9_average_6 (by decide) ?_
  refine lv_istore (lv' := [(4, .int 0), (0, .ref (G.2.2 0)), (1, .int a1), (2, .int a2), (3, .int a3)]) X.1 X.2.1 dX9_average_7 hl (by decide) rfl (fun ls hl => ?_)
  refine lv_iconst (v := 0) X.1 X.2.1 dX9_average_9 (by decide) ?_
  refine lv_istore (lv' := [(5, .int 0), (4, .int 0), (0, .ref (G.2.2 0)), (1, .int a1), (2, .int a2), (3, .int a3)]) X.1 X.2.1 dX9_average_10 hl (by decide) rfl (fun ls hl => ?_)
  have L1 : ∀ (n1 : Nat) (M : Mem) (v1 : Int32) (v2 : Int32) (v3 : Int32) (v4 : Int32) (v5 : Int32)  (hm1 : (16 - v5.toInt : Int).toNat < n1) (hi1_0 : 0 ≤ v5.toInt) (hi1_1 : 0 ≤ v1.toInt ∧ v1.toInt < 4) (hi1_2 : 0 ≤ v2.toInt ∧ v2.toInt < 8), ∀ (H : Heap) (locs : List Loc), WD false G A M s H → va_S A s.heap H locs → ∀ ls : Array Slot, lv_has ls 6 [(0, .ref (G.2.2 0)), (1, .int v1), (2, .int v2), (3, .int v3), (4, .int v4), (5, .int v5)] → W p l e ({ frames := 3, cells := 0, slots := 0, locals := 81 } : Room) s m ([.ref (G.2.2 0), .int a1, .int a2, .int a3] : List Value).toArray below meth c H locs 0 0 (TQv false G A below ([.ref (G.2.2 0), .int a1, .int a2, .int a3] : List Value).toArray s (f_X9_average_12 n1 M v1 v2 v3 v4 v5)) (F0 m 12 ls []) := by
    intro n1
    induction n1 with
    | zero => intro M v1 v2 v3 v4 v5 hm1 hi1_0 hi1_1 hi1_2; exact absurd hm1 (by omega)
    | succ n1 ih1 =>
      intro M v1 v2 v3 v4 v5 hm1 hi1_0 hi1_1 hi1_2 H locs hw hS ls hl
      rw [f_X9_average_12]
      refine lv_iload X.1 X.2.1 dX9_average_12 (lv_at hl 5 rfl) ?_
      refine lv_aload_n X.1 X.2.1 dX9_average_14 rfl (lv_at hl 0 rfl) ?_
      refine lv_iload_n X.1 X.2.1 dX9_average_15 rfl (lv_at hl 1 rfl) ?_
      refine lv_iload_n X.1 X.2.1 dX9_average_16 rfl (lv_at hl 2 rfl) ?_
      refine lv_iload_n X.1 X.2.1 dX9_average_17 rfl (lv_at hl 3 rfl) ?_
      refine cVI [.int v1, .int v2, .int v3] [.int v5] X hw (c_X9_first l G A M v1 v2 v3 (by omega) (by omega)) (cwV 3 X.2.2.2.2 gX9_average_X9_first rfl rfl rfl (by decide +kernel) ⟨Nat.le_of_ble_eq_true rfl, Nat.le_of_ble_eq_true rfl⟩) (hw.recv (by decide) hm_MO rfl) rfl rfl hl.1 (Nat.le_of_ble_eq_true rfl) dX9_average_18 ?_
      refine tni (fun r2 er2 => ?_)
      have zr2 := g_X9_first hw.2.2.2.2 er2 (by omega) (by omega)
      refine bi_ge (tgt := 61) X dX9_average_21 (by decide) (fun c3 => ?_) (fun c3 => ?_)
      · skip
        have t4 : r2.toInt ≤ v5.toInt := i_le c3
        refine lv_aload_n X.1 X.2.1 dX9_average_61 rfl (lv_at hl 0 rfl) ?_
        refine lv_aload_n X.1 X.2.1 dX9_average_62 rfl (lv_at hl 0 rfl) ?_
        refine lv_iload_n X.1 X.2.1 dX9_average_63 rfl (lv_at hl 2 rfl) ?_
        refine cVI [.int v2] [.ref (G.2.2 0)] X hw (c_X9_rs l G A M v2 (by omega)) (cwV 1 X.2.2.2.2 gX9_average_X9_rs rfl rfl rfl (by decide +kernel) ⟨Nat.le_of_ble_eq_true rfl, Nat.le_of_ble_eq_true rfl⟩) (hw.recv (by decide) hm_MO rfl) rfl rfl hl.1 (Nat.le_of_ble_eq_true rfl) dX9_average_64 ?_
        refine tni (fun r5 er5 => ?_)
        refine lv_i2l (v := r5.toInt64) X.1 X.2.1 dX9_average_67 rfl ?_
        refine cVW [.long r5.toInt64] [] X hw hS (c_X9_over l G A M r5.toInt64) (cwV 1 X.2.2.2.2 gX9_average_X9_over rfl rfl rfl (by decide +kernel) ⟨Nat.le_of_ble_eq_true rfl, Nat.le_of_ble_eq_true rfl⟩) (hw.recv (by decide) hm_MO rfl) rfl rfl hl.1 (Nat.le_of_ble_eq_true rfl) dX9_average_68 (fun H locs hw hS => ?_)
        refine tpb (fun M6 eM6 => ?_)
        rw [← eM6] at hw
        exact rV X hr hlk hw hS dX9_average_71
      · skip
        have t7 : v5.toInt < r2.toInt := i_nle c3
        refine lv_aload_n X.1 X.2.1 dX9_average_24 rfl (lv_at hl 0 rfl) ?_
        refine lv_iload_n X.1 X.2.1 dX9_average_25 rfl (lv_at hl 2 rfl) ?_
        refine lv_aload_n X.1 X.2.1 dX9_average_26 rfl (lv_at hl 0 rfl) ?_
        refine lv_iload_n X.1 X.2.1 dX9_average_27 rfl (lv_at hl 1 rfl) ?_
        refine lv_iload_n X.1 X.2.1 dX9_average_28 rfl (lv_at hl 2 rfl) ?_
        refine lv_iload X.1 X.2.1 dX9_average_29 (lv_at hl 5 rfl) ?_
        refine cVI [.int v1, .int v2, .int v5] [.int v2, .ref (G.2.2 0)] X hw (c_X9_doc l G A M v1 v2 v5 (by omega) (by omega) (by omega)) (cwV 3 X.2.2.2.2 gX9_average_X9_doc rfl rfl rfl (by decide +kernel) ⟨Nat.le_of_ble_eq_true rfl, Nat.le_of_ble_eq_true rfl⟩) (hw.recv (by decide) hm_MO rfl) rfl rfl hl.1 (Nat.le_of_ble_eq_true rfl) dX9_average_31 ?_
        refine tni (fun r8 er8 => ?_)
        have zr8 := g_X9_doc hw.2.2.2.2 er8 (by omega) (by omega) (by omega)
        refine cVI [.int v2, .int r8] [] X hw (c_X9_isGood l G A M v2 r8 (by omega) (by omega)) (cwV 2 X.2.2.2.2 gX9_average_X9_isGood rfl rfl rfl (by decide +kernel) ⟨Nat.le_of_ble_eq_true rfl, Nat.le_of_ble_eq_true rfl⟩) (hw.recv (by decide) hm_MO rfl) rfl rfl hl.1 (Nat.le_of_ble_eq_true rfl) dX9_average_34 ?_
        refine tni (fun r9 er9 => ?_)
        refine bz_eq (tgt := 55) X dX9_average_37 (by decide) (fun c10 => ?_) (fun c10 => ?_)
        · skip
          have t11 : r9.toInt = 0 := i_eq c10
          refine lv_iinc (v := (v5 + 1)) (lv' := [(5, .int (v5 + 1)), (0, .ref (G.2.2 0)), (1, .int v1), (2, .int v2), (3, .int v3), (4, .int v4)]) X.1 X.2.1 dX9_average_55 hl (k := 5) rfl rfl (by decide) rfl (fun ls hl => ?_)
          refine lv_goto (tgt := 12) X.1 X.2.1 dX9_average_58 (by decide) ?_
          have q12 := inc_sp v5
          exact ih1 M v1 v2 v3 v4 (v5 + 1) (by omega) (by omega) (by omega) (by omega) _ _ hw hS ls (lv_sub hl [1, 2, 3, 4, 5, 0] rfl)
        · skip
          have t13 : ¬ r9.toInt = 0 := i_ne c10
          refine lv_iinc (v := (v4 + 1)) (lv' := [(4, .int (v4 + 1)), (0, .ref (G.2.2 0)), (1, .int v1), (2, .int v2), (3, .int v3), (5, .int v5)]) X.1 X.2.1 dX9_average_40 hl (k := 4) rfl rfl (by decide) rfl (fun ls hl => ?_)
          refine lv_aload_n X.1 X.2.1 dX9_average_43 rfl (lv_at hl 1 rfl) ?_
          refine lv_iload X.1 X.2.1 dX9_average_44 (lv_at hl 0 rfl) ?_
          refine lv_i2l (v := (v4 + 1).toInt64) X.1 X.2.1 dX9_average_46 rfl ?_
          refine lv_iload X.1 X.2.1 dX9_average_47 (lv_at hl 5 rfl) ?_
          refine lv_i2l (v := v5.toInt64) X.1 X.2.1 dX9_average_49 rfl ?_
          refine lv_lconst (v := 1) X.1 X.2.1 dX9_average_50 (by decide) ?_
          refine lv_ladd X.1 X.2.1 dX9_average_51 ?_
          refine cVW [.long ((v4 + 1).toInt64), .long (v5.toInt64 + 1)] [] X hw hS (c_X9_plus l G A M (v4 + 1).toInt64 (v5.toInt64 + 1) (i2l1_nz (by omega))) (cwV 2 X.2.2.2.2 gX9_average_X9_plus rfl rfl rfl (by decide +kernel) ⟨Nat.le_of_ble_eq_true rfl, Nat.le_of_ble_eq_true rfl⟩) (hw.recv (by decide) hm_MO rfl) rfl rfl hl.1 (Nat.le_of_ble_eq_true rfl) dX9_average_52 (fun H locs hw hS => ?_)
          refine tpb (fun M14 eM14 => ?_)
          rw [← eM14] at hw
          refine lv_iinc (v := (v5 + 1)) (lv' := [(5, .int (v5 + 1)), (4, .int (v4 + 1)), (0, .ref (G.2.2 0)), (1, .int v1), (2, .int v2), (3, .int v3)]) X.1 X.2.1 dX9_average_55 hl (k := 5) rfl rfl (by decide) rfl (fun ls hl => ?_)
          refine lv_goto (tgt := 12) X.1 X.2.1 dX9_average_58 (by decide) ?_
          have q15 := inc_sp v4
          have q16 := inc_sp v5
          exact ih1 M14 v1 v2 v3 (v4 + 1) (v5 + 1) (by omega) (by omega) (by omega) (by omega) _ _ hw hS ls (lv_sub hl [2, 3, 4, 5, 1, 0] rfl)
  exact L1 17 M1 a1 a2 a3 0 0 (by decide) (by first | omega | decide) (by first | omega | decide) (by first | omega | decide) _ _ hw hS ls (lv_sub hl [2, 3, 4, 5, 1, 0] rfl)

def f_X9_firstGood_17 : Nat → Mem → Int32 → Int32 → Int32 → Int32 → Mem
  | 0, M, _, _, _, _ => M
  | n1 + 1, M, v1, v2, v3, v4 => if v4 < 0 then M else (bnd (f_X9_doc M v1 v2 v4) (fun r8 => bnd (f_X9_isGood M v2 r8) (fun r9 => if r9 = 0 then (f_X9_firstGood_17 n1 M v1 v2 v3 (v4 + (-1))) else (bnd (f_X9_make M 1 (v4.toInt64 + 1)) (fun M13 => f_X9_firstGood_17 n1 M13 v1 v2 v3 (v4 + (-1)))))))
def f_X9_firstGood (M : Mem) (a1 : Int32) (a2 : Int32) (a3 : Int32) : Mem := bnd (f_X9_make M 0 1) (fun M1 => bnd (f_X9_first M1 a1 a2 a3) (fun r2 => bnd (r2 - 1) (fun x3 => f_X9_firstGood_17 ((x3.toInt + 1 : Int).toNat + 1) M1 a1 a2 a3 x3)))
set_option maxRecDepth 100000 in
set_option maxHeartbeats 4000000 in
theorem c_X9_firstGood (l : Launch) (G : En) (A : Nat → Prop) (M : Mem) (a1 : Int32) (a2 : Int32) (a3 : Int32) (hra : 0 ≤ a1.toInt ∧ a1.toInt < 4) (hqa : 0 ≤ a2.toInt ∧ a2.toInt < 8) (hk : 1 ≤ a3.toInt ∧ a3.toInt ≤ 16) : WrV false l yX9_firstGood wsX9_firstGood ({ frames := 2, cells := 0, slots := 0, locals := 55 }) G A M [.ref (G.2.2 0), .int a1, .int a2, .int a3] (f_X9_firstGood M a1 a2 a3) := by
  refine WrV.of (cc := cX9_firstGood) (maxL := 5) (ret := none) (own := RX9) (by decide) rfl rfl (Nat.le_of_ble_eq_true rfl) ?_
  intro p e s m below meth c X hw hr hlk ls hl hS
  have hl : lv_has ls 5 [(0, .ref (G.2.2 0)), (1, .int a1), (2, .int a2), (3, .int a3)] := hl
  unfold f_X9_firstGood
  refine lv_aload_n X.1 X.2.1 dX9_firstGood_0 rfl (lv_at hl 0 rfl) ?_
  refine lv_lconst (v := 0) X.1 X.2.1 dX9_firstGood_1 (by decide) ?_
  refine lv_lconst (v := 1) X.1 X.2.1 dX9_firstGood_2 (by decide) ?_
  refine cVW [.long 0, .long 1] [] X hw hS (c_X9_make l G A M 0 1) (cwV 2 X.2.2.2.2 gX9_firstGood_X9_make rfl rfl rfl (by decide +kernel) ⟨Nat.le_of_ble_eq_true rfl, Nat.le_of_ble_eq_true rfl⟩) (hw.recv (by decide) hm_MO rfl) rfl rfl hl.1 (Nat.le_of_ble_eq_true rfl) dX9_firstGood_3 (fun H locs hw hS => ?_)
  refine tpb (fun M1 eM1 => ?_)
  rw [← eM1] at hw
  refine lv_aload_n X.1 X.2.1 dX9_firstGood_6 rfl (lv_at hl 0 rfl) ?_
  refine lv_iload_n X.1 X.2.1 dX9_firstGood_7 rfl (lv_at hl 1 rfl) ?_
  refine lv_iload_n X.1 X.2.1 dX9_firstGood_8 rfl (lv_at hl 2 rfl) ?_
  refine lv_iload_n X.1 X.2.1 dX9_firstGood_9 rfl (lv_at hl 3 rfl) ?_
  refine cVI [.int a1, .int a2, .int a3] [] X hw (c_X9_first l G A M1 a1 a2 a3 (by omega) (by omega)) (cwV 3 X.2.2.2.2 gX9_firstGood_X9_first rfl rfl rfl (by decide +kernel) ⟨Nat.le_of_ble_eq_true rfl, Nat.le_of_ble_eq_true rfl⟩) (hw.recv (by decide) hm_MO rfl) rfl rfl hl.1 (Nat.le_of_ble_eq_true rfl) dX9_firstGood_10 ?_
  refine tni (fun r2 er2 => ?_)
  have zr2 := g_X9_first hw.2.2.2.2 er2 (by omega) (by omega)
  refine lv_iconst (v := 1) X.1 X.2.1 dX9_firstGood_13 (by decide) ?_
  refine lv_isub X.1 X.2.1 dX9_firstGood_14 ?_
  refine tni (fun x3 ex3 => ?_)
  have q4 := dec_sp r2
  rw [← ex3] at q4
  refine lv_istore (lv' := [(4, .int x3), (0, .ref (G.2.2 0)), (1, .int a1), (2, .int a2), (3, .int a3)]) X.1 X.2.1 dX9_firstGood_15 hl (by decide) rfl (fun ls hl => ?_)
  have L1 : ∀ (n1 : Nat) (M : Mem) (v1 : Int32) (v2 : Int32) (v3 : Int32) (v4 : Int32)  (hm1 : (v4.toInt + 1 : Int).toNat < n1) (hi1_0 : v4.toInt ≤ 15) (hi1_1 : 0 ≤ v1.toInt ∧ v1.toInt < 4) (hi1_2 : 0 ≤ v2.toInt ∧ v2.toInt < 8), ∀ (H : Heap) (locs : List Loc), WD false G A M s H → va_S A s.heap H locs → ∀ ls : Array Slot, lv_has ls 5 [(0, .ref (G.2.2 0)), (1, .int v1), (2, .int v2), (3, .int v3), (4, .int v4)] → W p l e ({ frames := 2, cells := 0, slots := 0, locals := 55 } : Room) s m ([.ref (G.2.2 0), .int a1, .int a2, .int a3] : List Value).toArray below meth c H locs 0 0 (TQv false G A below ([.ref (G.2.2 0), .int a1, .int a2, .int a3] : List Value).toArray s (f_X9_firstGood_17 n1 M v1 v2 v3 v4)) (F0 m 17 ls []) := by
    intro n1
    induction n1 with
    | zero => intro M v1 v2 v3 v4 hm1 hi1_0 hi1_1 hi1_2; exact absurd hm1 (by omega)
    | succ n1 ih1 =>
      intro M v1 v2 v3 v4 hm1 hi1_0 hi1_1 hi1_2 H locs hw hS ls hl
      rw [f_X9_firstGood_17]
      refine lv_iload X.1 X.2.1 dX9_firstGood_17 (lv_at hl 4 rfl) ?_
      refine bz_lt (tgt := 54) X dX9_firstGood_19 (by decide) (fun c5 => ?_) (fun c5 => ?_)
      · skip
        have t6 : v4.toInt < 0 := i_lt c5
        exact rV X hr hlk hw hS dX9_firstGood_54
      · skip
        have t7 : 0 ≤ v4.toInt := i_nlt c5
        refine lv_aload_n X.1 X.2.1 dX9_firstGood_22 rfl (lv_at hl 0 rfl) ?_
        refine lv_iload_n X.1 X.2.1 dX9_firstGood_23 rfl (lv_at hl 2 rfl) ?_
        refine lv_aload_n X.1 X.2.1 dX9_firstGood_24 rfl (lv_at hl 0 rfl) ?_
        refine lv_iload_n X.1 X.2.1 dX9_firstGood_25 rfl (lv_at hl 1 rfl) ?_
        refine lv_iload_n X.1 X.2.1 dX9_firstGood_26 rfl (lv_at hl 2 rfl) ?_
        refine lv_iload X.1 X.2.1 dX9_firstGood_27 (lv_at hl 4 rfl) ?_
        refine cVI [.int v1, .int v2, .int v4] [.int v2, .ref (G.2.2 0)] X hw (c_X9_doc l G A M v1 v2 v4 (by omega) (by omega) (by omega)) (cwV 3 X.2.2.2.2 gX9_firstGood_X9_doc rfl rfl rfl (by decide +kernel) ⟨Nat.le_of_ble_eq_true rfl, Nat.le_of_ble_eq_true rfl⟩) (hw.recv (by decide) hm_MO rfl) rfl rfl hl.1 (Nat.le_of_ble_eq_true rfl) dX9_firstGood_29 ?_
        refine tni (fun r8 er8 => ?_)
        have zr8 := g_X9_doc hw.2.2.2.2 er8 (by omega) (by omega) (by omega)
        refine cVI [.int v2, .int r8] [] X hw (c_X9_isGood l G A M v2 r8 (by omega) (by omega)) (cwV 2 X.2.2.2.2 gX9_firstGood_X9_isGood rfl rfl rfl (by decide +kernel) ⟨Nat.le_of_ble_eq_true rfl, Nat.le_of_ble_eq_true rfl⟩) (hw.recv (by decide) hm_MO rfl) rfl rfl hl.1 (Nat.le_of_ble_eq_true rfl) dX9_firstGood_32 ?_
        refine tni (fun r9 er9 => ?_)
        refine bz_eq (tgt := 48) X dX9_firstGood_35 (by decide) (fun c10 => ?_) (fun c10 => ?_)
        · skip
          have t11 : r9.toInt = 0 := i_eq c10
          refine lv_iinc (v := (v4 + (-1))) (lv' := [(4, .int (v4 + (-1))), (0, .ref (G.2.2 0)), (1, .int v1), (2, .int v2), (3, .int v3)]) X.1 X.2.1 dX9_firstGood_48 hl (k := 4) rfl rfl (by decide) rfl (fun ls hl => ?_)
          refine lv_goto (tgt := 17) X.1 X.2.1 dX9_firstGood_51 (by decide) ?_
          exact ih1 M v1 v2 v3 (v4 + (-1)) (dn3 (by assumption) (by assumption)) (dn4 (by assumption) (by assumption)) (by omega) (by omega) _ _ hw hS ls (lv_sub hl [1, 2, 3, 4, 0] rfl)
        · skip
          have t12 : ¬ r9.toInt = 0 := i_ne c10
          refine lv_aload_n X.1 X.2.1 dX9_firstGood_38 rfl (lv_at hl 0 rfl) ?_
          refine lv_lconst (v := 1) X.1 X.2.1 dX9_firstGood_39 (by decide) ?_
          refine lv_iload X.1 X.2.1 dX9_firstGood_40 (lv_at hl 4 rfl) ?_
          refine lv_i2l (v := v4.toInt64) X.1 X.2.1 dX9_firstGood_42 rfl ?_
          refine lv_lconst (v := 1) X.1 X.2.1 dX9_firstGood_43 (by decide) ?_
          refine lv_ladd X.1 X.2.1 dX9_firstGood_44 ?_
          refine cVW [.long 1, .long (v4.toInt64 + 1)] [] X hw hS (c_X9_make l G A M 1 (v4.toInt64 + 1)) (cwV 2 X.2.2.2.2 gX9_firstGood_X9_make rfl rfl rfl (by decide +kernel) ⟨Nat.le_of_ble_eq_true rfl, Nat.le_of_ble_eq_true rfl⟩) (hw.recv (by decide) hm_MO rfl) rfl rfl hl.1 (Nat.le_of_ble_eq_true rfl) dX9_firstGood_45 (fun H locs hw hS => ?_)
          refine tpb (fun M13 eM13 => ?_)
          rw [← eM13] at hw
          refine lv_iinc (v := (v4 + (-1))) (lv' := [(4, .int (v4 + (-1))), (0, .ref (G.2.2 0)), (1, .int v1), (2, .int v2), (3, .int v3)]) X.1 X.2.1 dX9_firstGood_48 hl (k := 4) rfl rfl (by decide) rfl (fun ls hl => ?_)
          refine lv_goto (tgt := 17) X.1 X.2.1 dX9_firstGood_51 (by decide) ?_
          exact ih1 M13 v1 v2 v3 (v4 + (-1)) (dn3 (by assumption) (by assumption)) (dn4 (by assumption) (by assumption)) (by omega) (by omega) _ _ hw hS ls (lv_sub hl [1, 2, 3, 4, 0] rfl)
  exact L1 ((x3.toInt + 1 : Int).toNat + 1) M1 a1 a2 a3 x3 (Nat.lt_succ_self _) (by first | omega | decide) (by first | omega | decide) (by first | omega | decide) _ _ hw hS ls (lv_sub hl [1, 2, 3, 4, 0] rfl)

def f_X9_gained_9 : Nat → Mem → Int32 → Int32 → Int32 → Int32 → Mem
  | 0, M, _, _, _, _ => M
  | n1 + 1, M, v1, v2, v3, v4 => bnd (f_X9_first M v1 v2 v3) (fun r2 => if r2 ≤ v4 then M else (bnd (f_X9_doc M v1 v2 v4) (fun r6 => bnd (f_X9_isGood M v2 r6) (fun r7 => if r7 = 0 then (f_X9_gained_9 n1 M v1 v2 v3 (v4 + 1)) else (bnd (f_X9_gradeOf M v2 r6) (fun r12 => bnd (f_X9_worth r12) (fun r13 => bnd (f_X9_plus M r13.toInt64 (v4.toInt64 + 1)) (fun M14 => f_X9_gained_9 n1 M14 v1 v2 v3 (v4 + 1)))))))))
def f_X9_gained (M : Mem) (a1 : Int32) (a2 : Int32) (a3 : Int32) : Mem := bnd (f_X9_make M 0 1) (fun M1 => f_X9_gained_9 17 M1 a1 a2 a3 0)
set_option maxRecDepth 100000 in
set_option maxHeartbeats 4000000 in
theorem c_X9_gained (l : Launch) (G : En) (A : Nat → Prop) (M : Mem) (a1 : Int32) (a2 : Int32) (a3 : Int32) (hra : 0 ≤ a1.toInt ∧ a1.toInt < 4) (hqa : 0 ≤ a2.toInt ∧ a2.toInt < 8) : WrV false l yX9_gained wsX9_gained ({ frames := 3, cells := 0, slots := 0, locals := 81 }) G A M [.ref (G.2.2 0), .int a1, .int a2, .int a3] (f_X9_gained M a1 a2 a3) := by
  refine WrV.of (cc := cX9_gained) (maxL := 6) (ret := none) (own := RX9) (by decide) rfl rfl (Nat.le_of_ble_eq_true rfl) ?_
  intro p e s m below meth c X hw hr hlk ls hl hS
  have hl : lv_has ls 6 [(0, .ref (G.2.2 0)), (1, .int a1), (2, .int a2), (3, .int a3)] := hl
  unfold f_X9_gained
  refine lv_aload_n X.1 X.2.1 dX9_gained_0 rfl (lv_at hl 0 rfl) ?_
  refine lv_lconst (v := 0) X.1 X.2.1 dX9_gained_1 (by decide) ?_
  refine lv_lconst (v := 1) X.1 X.2.1 dX9_gained_2 (by decide) ?_
  refine cVW [.long 0, .long 1] [] X hw hS (c_X9_make l G A M 0 1) (cwV 2 X.2.2.2.2 gX9_gained_X9_make rfl rfl rfl (by decide +kernel) ⟨Nat.le_of_ble_eq_true rfl, Nat.le_of_ble_eq_true rfl⟩) (hw.recv (by decide) hm_MO rfl) rfl rfl hl.1 (Nat.le_of_ble_eq_true rfl) dX9_gained_3 (fun H locs hw hS => ?_)
  refine tpb (fun M1 eM1 => ?_)
  rw [← eM1] at hw
  refine lv_iconst (v := 0) X.1 X.2.1 dX9_gained_6 (by decide) ?_
  refine lv_istore (lv' := [(4, .int 0), (0, .ref (G.2.2 0)), (1, .int a1), (2, .int a2), (3, .int a3)]) X.1 X.2.1 dX9_gained_7 hl (by decide) rfl (fun ls hl => ?_)
  have L1 : ∀ (n1 : Nat) (M : Mem) (v1 : Int32) (v2 : Int32) (v3 : Int32) (v4 : Int32)  (hm1 : (16 - v4.toInt : Int).toNat < n1) (hi1_0 : 0 ≤ v4.toInt) (hi1_1 : 0 ≤ v1.toInt ∧ v1.toInt < 4) (hi1_2 : 0 ≤ v2.toInt ∧ v2.toInt < 8), ∀ (H : Heap) (locs : List Loc), WD false G A M s H → va_S A s.heap H locs → ∀ ls : Array Slot, lv_has ls 6 [(0, .ref (G.2.2 0)), (1, .int v1), (2, .int v2), (3, .int v3), (4, .int v4)] → W p l e ({ frames := 3, cells := 0, slots := 0, locals := 81 } : Room) s m ([.ref (G.2.2 0), .int a1, .int a2, .int a3] : List Value).toArray below meth c H locs 0 0 (TQv false G A below ([.ref (G.2.2 0), .int a1, .int a2, .int a3] : List Value).toArray s (f_X9_gained_9 n1 M v1 v2 v3 v4)) (F0 m 9 ls []) := by
    intro n1
    induction n1 with
    | zero => intro M v1 v2 v3 v4 hm1 hi1_0 hi1_1 hi1_2; exact absurd hm1 (by omega)
    | succ n1 ih1 =>
      intro M v1 v2 v3 v4 hm1 hi1_0 hi1_1 hi1_2 H locs hw hS ls hl
      rw [f_X9_gained_9]
      refine lv_iload X.1 X.2.1 dX9_gained_9 (lv_at hl 4 rfl) ?_
      refine lv_aload_n X.1 X.2.1 dX9_gained_11 rfl (lv_at hl 0 rfl) ?_
      refine lv_iload_n X.1 X.2.1 dX9_gained_12 rfl (lv_at hl 1 rfl) ?_
      refine lv_iload_n X.1 X.2.1 dX9_gained_13 rfl (lv_at hl 2 rfl) ?_
      refine lv_iload_n X.1 X.2.1 dX9_gained_14 rfl (lv_at hl 3 rfl) ?_
      refine cVI [.int v1, .int v2, .int v3] [.int v4] X hw (c_X9_first l G A M v1 v2 v3 (by omega) (by omega)) (cwV 3 X.2.2.2.2 gX9_gained_X9_first rfl rfl rfl (by decide +kernel) ⟨Nat.le_of_ble_eq_true rfl, Nat.le_of_ble_eq_true rfl⟩) (hw.recv (by decide) hm_MO rfl) rfl rfl hl.1 (Nat.le_of_ble_eq_true rfl) dX9_gained_15 ?_
      refine tni (fun r2 er2 => ?_)
      have zr2 := g_X9_first hw.2.2.2.2 er2 (by omega) (by omega)
      refine bi_ge (tgt := 67) X dX9_gained_18 (by decide) (fun c3 => ?_) (fun c3 => ?_)
      · skip
        have t4 : r2.toInt ≤ v4.toInt := i_le c3
        exact rV X hr hlk hw hS dX9_gained_67
      · skip
        have t5 : v4.toInt < r2.toInt := i_nle c3
        refine lv_aload_n X.1 X.2.1 dX9_gained_21 rfl (lv_at hl 0 rfl) ?_
        refine lv_iload_n X.1 X.2.1 dX9_gained_22 rfl (lv_at hl 1 rfl) ?_
        refine lv_iload_n X.1 X.2.1 dX9_gained_23 rfl (lv_at hl 2 rfl) ?_
        refine lv_iload X.1 X.2.1 dX9_gained_24 (lv_at hl 4 rfl) ?_
        refine cVI [.int v1, .int v2, .int v4] [] X hw (c_X9_doc l G A M v1 v2 v4 (by omega) (by omega) (by omega)) (cwV 3 X.2.2.2.2 gX9_gained_X9_doc rfl rfl rfl (by decide +kernel) ⟨Nat.le_of_ble_eq_true rfl, Nat.le_of_ble_eq_true rfl⟩) (hw.recv (by decide) hm_MO rfl) rfl rfl hl.1 (Nat.le_of_ble_eq_true rfl) dX9_gained_26 ?_
        refine tni (fun r6 er6 => ?_)
        have zr6 := g_X9_doc hw.2.2.2.2 er6 (by omega) (by omega) (by omega)
        refine lv_istore (lv' := [(5, .int r6), (0, .ref (G.2.2 0)), (1, .int v1), (2, .int v2), (3, .int v3), (4, .int v4)]) X.1 X.2.1 dX9_gained_29 hl (by decide) rfl (fun ls hl => ?_)
        refine lv_aload_n X.1 X.2.1 dX9_gained_31 rfl (lv_at hl 1 rfl) ?_
        refine lv_iload_n X.1 X.2.1 dX9_gained_32 rfl (lv_at hl 3 rfl) ?_
        refine lv_iload X.1 X.2.1 dX9_gained_33 (lv_at hl 0 rfl) ?_
        refine cVI [.int v2, .int r6] [] X hw (c_X9_isGood l G A M v2 r6 (by omega) (by omega)) (cwV 2 X.2.2.2.2 gX9_gained_X9_isGood rfl rfl rfl (by decide +kernel) ⟨Nat.le_of_ble_eq_true rfl, Nat.le_of_ble_eq_true rfl⟩) (hw.recv (by decide) hm_MO rfl) rfl rfl hl.1 (Nat.le_of_ble_eq_true rfl) dX9_gained_35 ?_
        refine tni (fun r7 er7 => ?_)
        refine bz_eq (tgt := 61) X dX9_gained_38 (by decide) (fun c8 => ?_) (fun c8 => ?_)
        · skip
          have t9 : r7.toInt = 0 := i_eq c8
          refine lv_iinc (v := (v4 + 1)) (lv' := [(4, .int (v4 + 1)), (5, .int r6), (0, .ref (G.2.2 0)), (1, .int v1), (2, .int v2), (3, .int v3)]) X.1 X.2.1 dX9_gained_61 hl (k := 5) rfl rfl (by decide) rfl (fun ls hl => ?_)
          refine lv_goto (tgt := 9) X.1 X.2.1 dX9_gained_64 (by decide) ?_
          have q10 := inc_sp v4
          exact ih1 M v1 v2 v3 (v4 + 1) (by omega) (by omega) (by omega) (by omega) _ _ hw hS ls (lv_sub hl [2, 3, 4, 5, 0] rfl)
        · skip
          have t11 : ¬ r7.toInt = 0 := i_ne c8
          refine lv_aload_n X.1 X.2.1 dX9_gained_41 rfl (lv_at hl 1 rfl) ?_
          refine lv_aload_n X.1 X.2.1 dX9_gained_42 rfl (lv_at hl 1 rfl) ?_
          refine lv_iload_n X.1 X.2.1 dX9_gained_43 rfl (lv_at hl 3 rfl) ?_
          refine lv_iload X.1 X.2.1 dX9_gained_44 (lv_at hl 0 rfl) ?_
          refine cVI [.int v2, .int r6] [.ref (G.2.2 0)] X hw (c_X9_gradeOf l G A M v2 r6 (by omega) (by omega)) (cwV 2 X.2.2.2.2 gX9_gained_X9_gradeOf rfl rfl rfl (by decide +kernel) ⟨Nat.le_of_ble_eq_true rfl, Nat.le_of_ble_eq_true rfl⟩) (hw.recv (by decide) hm_MO rfl) rfl rfl hl.1 (Nat.le_of_ble_eq_true rfl) dX9_gained_46 ?_
          refine tni (fun r12 er12 => ?_)
          refine cSI [.int r12] [.ref (G.2.2 0)] X hw (c_X9_worth l G A M r12) (va_cwS 1 X.2.2.2.2 gX9_gained_X9_worth rfl rfl rfl (by decide +kernel) ⟨Nat.le_of_ble_eq_true rfl, Nat.le_of_ble_eq_true rfl⟩)  rfl rfl hl.1 (Nat.le_of_ble_eq_true rfl) dX9_gained_49 ?_
          refine tni (fun r13 er13 => ?_)
          refine lv_i2l (v := r13.toInt64) X.1 X.2.1 dX9_gained_52 rfl ?_
          refine lv_iload X.1 X.2.1 dX9_gained_53 (lv_at hl 5 rfl) ?_
          refine lv_i2l (v := v4.toInt64) X.1 X.2.1 dX9_gained_55 rfl ?_
          refine lv_lconst (v := 1) X.1 X.2.1 dX9_gained_56 (by decide) ?_
          refine lv_ladd X.1 X.2.1 dX9_gained_57 ?_
          refine cVW [.long r13.toInt64, .long (v4.toInt64 + 1)] [] X hw hS (c_X9_plus l G A M r13.toInt64 (v4.toInt64 + 1) (i2l1_nz (by omega))) (cwV 2 X.2.2.2.2 gX9_gained_X9_plus rfl rfl rfl (by decide +kernel) ⟨Nat.le_of_ble_eq_true rfl, Nat.le_of_ble_eq_true rfl⟩) (hw.recv (by decide) hm_MO rfl) rfl rfl hl.1 (Nat.le_of_ble_eq_true rfl) dX9_gained_58 (fun H locs hw hS => ?_)
          refine tpb (fun M14 eM14 => ?_)
          rw [← eM14] at hw
          refine lv_iinc (v := (v4 + 1)) (lv' := [(4, .int (v4 + 1)), (5, .int r6), (0, .ref (G.2.2 0)), (1, .int v1), (2, .int v2), (3, .int v3)]) X.1 X.2.1 dX9_gained_61 hl (k := 5) rfl rfl (by decide) rfl (fun ls hl => ?_)
          refine lv_goto (tgt := 9) X.1 X.2.1 dX9_gained_64 (by decide) ?_
          have q15 := inc_sp v4
          exact ih1 M14 v1 v2 v3 (v4 + 1) (by omega) (by omega) (by omega) (by omega) _ _ hw hS ls (lv_sub hl [2, 3, 4, 5, 0] rfl)
  exact L1 17 M1 a1 a2 a3 0 (by decide) (by first | omega | decide) (by first | omega | decide) (by first | omega | decide) _ _ hw hS ls (lv_sub hl [1, 2, 3, 4, 0] rfl)

def f_X9_share_31 (K : Mem → Int32 → Mem) : Nat → Mem → Int32 → Int32 → Int32 → Int32 → Int32 → Int32 → Int32 → Mem
  | 0, M, _, _, _, _, _, _, _ => M
  | n2 + 1, M, v1, v2, v3, v5, r13, u4, u7 => if r13 ≤ u7 then (K M u4) else (if v3 < u4 then (K M u4) else (bnd (f_X9_worth v5) (fun r20 => bnd (f_X9_plus M r20.toInt64 u4.toInt64) (fun M21 => f_X9_share_31 K n2 M21 v1 v2 v3 v5 r13 (u4 + 1) (u7 + 1)))))
def f_X9_share_12 : Nat → Mem → Int32 → Int32 → Int32 → Int32 → Int32 → Mem
  | 0, M, _, _, _, _, _ => M
  | n1 + 1, M, v1, v2, v3, v4, v5 => if v5 ≤ 0 then (bnd (M.2 0 6) (fun w4 => bnd (M.2 0 7) (fun w5 => if w4 = 0 then (bnd (f_X9_make M 0 1) (fun M11 => M11)) else (bnd (f_X9_gained M v1 v2 v3) (fun M7 => bnd (f_X9_common (M7.2 0 6) w4) (fun r8 => bnd (f_X9_common w5 (M7.2 0 7)) (fun r9 => bnd (f_X9_make M7 (((M7.2 0 6) / r8) * (w5 / r9)) (((M7.2 0 7) / r9) * (w4 / r8))) (fun M10 => M10)))))))) else (bnd (f_X9_graded M v2 v5 v5) (fun r13 => f_X9_share_31 (fun M y4 => f_X9_share_12 n1 M v1 v2 v3 y4 (v5 + (-1))) ((r13.toInt - 0 : Int).toNat + 1) M v1 v2 v3 v5 r13 v4 0))
def f_X9_share (M : Mem) (a1 : Int32) (a2 : Int32) (a3 : Int32) : Mem := bnd (f_X9_make M 0 1) (fun M1 => f_X9_share_12 4 M1 a1 a2 a3 1 3)
set_option maxRecDepth 100000 in
set_option maxHeartbeats 4000000 in
theorem c_X9_share (l : Launch) (G : En) (A : Nat → Prop) (M : Mem) (a1 : Int32) (a2 : Int32) (a3 : Int32) (hra : 0 ≤ a1.toInt ∧ a1.toInt < 4) (hqa : 0 ≤ a2.toInt ∧ a2.toInt < 8) (hk : a3.toInt ≤ 16) : WrV false l yX9_share wsX9_share ({ frames := 4, cells := 0, slots := 0, locals := 106 }) G A M [.ref (G.2.2 0), .int a1, .int a2, .int a3] (f_X9_share M a1 a2 a3) := by
  refine WrV.of (cc := cX9_share) (maxL := 13) (ret := none) (own := RX9) (by decide) rfl rfl (Nat.le_of_ble_eq_true rfl) ?_
  intro p e s m below meth c X hw hr hlk ls hl hS
  have hl : lv_has ls 13 [(0, .ref (G.2.2 0)), (1, .int a1), (2, .int a2), (3, .int a3)] := hl
  unfold f_X9_share
  refine lv_aload_n X.1 X.2.1 dX9_share_0 rfl (lv_at hl 0 rfl) ?_
  refine lv_lconst (v := 0) X.1 X.2.1 dX9_share_1 (by decide) ?_
  refine lv_lconst (v := 1) X.1 X.2.1 dX9_share_2 (by decide) ?_
  refine cVW [.long 0, .long 1] [] X hw hS (c_X9_make l G A M 0 1) (cwV 2 X.2.2.2.2 gX9_share_X9_make rfl rfl rfl (by decide +kernel) ⟨Nat.le_of_ble_eq_true rfl, Nat.le_of_ble_eq_true rfl⟩) (hw.recv (by decide) hm_MO rfl) rfl rfl hl.1 (Nat.le_of_ble_eq_true rfl) dX9_share_3 (fun H locs hw hS => ?_)
  refine tpb (fun M1 eM1 => ?_)
  rw [← eM1] at hw
  refine lv_iconst (v := 1) X.1 X.2.1 dX9_share_6 (by decide) ?_
  refine lv_istore (lv' := [(4, .int 1), (0, .ref (G.2.2 0)), (1, .int a1), (2, .int a2), (3, .int a3)]) X.1 X.2.1 dX9_share_7 hl (by decide) rfl (fun ls hl => ?_)
  refine lv_iconst (v := 3) X.1 X.2.1 dX9_share_9 (by decide) ?_
  refine lv_istore (lv' := [(5, .int 3), (4, .int 1), (0, .ref (G.2.2 0)), (1, .int a1), (2, .int a2), (3, .int a3)]) X.1 X.2.1 dX9_share_10 hl (by decide) rfl (fun ls hl => ?_)
  have L1 : ∀ (n1 : Nat) (M : Mem) (v1 : Int32) (v2 : Int32) (v3 : Int32) (v4 : Int32) (v5 : Int32)  (hm1 : (v5.toInt : Int).toNat < n1) (hi1_0 : v5.toInt ≤ 3) (hi1_1 : 1 ≤ v4.toInt) (hi1_2 : v3.toInt ≤ 16) (hi1_3 : 0 ≤ v1.toInt ∧ v1.toInt < 4) (hi1_4 : 0 ≤ v2.toInt ∧ v2.toInt < 8), ∀ (H : Heap) (locs : List Loc), WD false G A M s H → va_S A s.heap H locs → ∀ ls : Array Slot, lv_has ls 13 [(0, .ref (G.2.2 0)), (1, .int v1), (2, .int v2), (3, .int v3), (4, .int v4), (5, .int v5)] → W p l e ({ frames := 4, cells := 0, slots := 0, locals := 106 } : Room) s m ([.ref (G.2.2 0), .int a1, .int a2, .int a3] : List Value).toArray below meth c H locs 0 0 (TQv false G A below ([.ref (G.2.2 0), .int a1, .int a2, .int a3] : List Value).toArray s (f_X9_share_12 n1 M v1 v2 v3 v4 v5)) (F0 m 12 ls []) := by
    intro n1
    induction n1 with
    | zero => intro M v1 v2 v3 v4 v5 hm1 hi1_0 hi1_1 hi1_2 hi1_3 hi1_4; exact absurd hm1 (by omega)
    | succ n1 ih1 =>
      intro M v1 v2 v3 v4 v5 hm1 hi1_0 hi1_1 hi1_2 hi1_3 hi1_4 H locs hw hS ls hl
      rw [f_X9_share_12]
      refine lv_iload X.1 X.2.1 dX9_share_12 (lv_at hl 5 rfl) ?_
      refine bz_le (tgt := 72) X dX9_share_14 (by decide) (fun c2 => ?_) (fun c2 => ?_)
      · skip
        have t3 : v5.toInt ≤ 0 := i_le c2
        refine lv_aload_n X.1 X.2.1 dX9_share_72 rfl (lv_at hl 0 rfl) ?_
        refine gF X hw (by decide) hm_MO rfl (by decide +kernel) 6 (by decide) (ref := "RankBenchModel") rfl (by decide +kernel) rfl dX9_share_73 ?_
        refine tnl (fun w4 ew4 => ?_)
        refine lv_lstore (lv' := [(5, .long w4), (0, .ref (G.2.2 0)), (1, .int v1), (2, .int v2), (3, .int v3), (4, .int v4)]) X.1 X.2.1 dX9_share_76 hl (by decide) rfl (fun ls hl => ?_)
        refine lv_aload_n X.1 X.2.1 dX9_share_78 rfl (lv_at hl 1 rfl) ?_
        refine gF X hw (by decide) hm_MO rfl (by decide +kernel) 7 (by decide) (ref := "RankBenchModel") rfl (by decide +kernel) rfl dX9_share_79 ?_
        refine tnl (fun w5 ew5 => ?_)
        refine lv_lstore (lv' := [(7, .long w5), (5, .long w4), (0, .ref (G.2.2 0)), (1, .int v1), (2, .int v2), (3, .int v3), (4, .int v4)]) X.1 X.2.1 dX9_share_82 hl (by decide) rfl (fun ls hl => ?_)
        refine lv_lload X.1 X.2.1 dX9_share_84 (lv_at hl 1 rfl) ?_
        refine lv_lconst (v := 0) X.1 X.2.1 dX9_share_86 (by decide) ?_
        refine bl_ne (tgt := 98) X dX9_share_87 dX9_share_88 (by decide) (fun c6 => ?_) (fun c6 => ?_)
        · skip
          refine lv_aload_n X.1 X.2.1 dX9_share_98 rfl (lv_at hl 2 rfl) ?_
          refine lv_iload_n X.1 X.2.1 dX9_share_99 rfl (lv_at hl 3 rfl) ?_
          refine lv_iload_n X.1 X.2.1 dX9_share_100 rfl (lv_at hl 4 rfl) ?_
          refine lv_iload_n X.1 X.2.1 dX9_share_101 rfl (lv_at hl 5 rfl) ?_
          refine cVW [.int v1, .int v2, .int v3] [] X hw hS (c_X9_gained l G A M v1 v2 v3 (by omega) (by omega)) (cwV 3 X.2.2.2.2 gX9_share_X9_gained rfl rfl rfl (by decide +kernel) ⟨Nat.le_of_ble_eq_true rfl, Nat.le_of_ble_eq_true rfl⟩) (hw.recv (by decide) hm_MO rfl) rfl rfl hl.1 (Nat.le_of_ble_eq_true rfl) dX9_share_102 (fun H locs hw hS => ?_)
          refine tpb (fun M7 eM7 => ?_)
          rw [← eM7] at hw
          refine lv_aload_n X.1 X.2.1 dX9_share_105 rfl (lv_at hl 2 rfl) ?_
          refine gF X hw (by decide) hm_MO rfl (by decide +kernel) 6 (by decide) (ref := "RankBenchModel") rfl (by decide +kernel) rfl dX9_share_106 ?_
          refine lv_lload X.1 X.2.1 dX9_share_109 (lv_at hl 1 rfl) ?_
          refine cSL [.long (M7.2 0 6), .long w4] [] X hw (c_X9_common l G A M7 (M7.2 0 6) w4) (va_cwS 2 X.2.2.2.2 gX9_share_X9_common rfl rfl rfl (by decide +kernel) ⟨Nat.le_of_ble_eq_true rfl, Nat.le_of_ble_eq_true rfl⟩)  rfl rfl hl.1 (Nat.le_of_ble_eq_true rfl) dX9_share_111 ?_
          refine tnl (fun r8 er8 => ?_)
          refine lv_lstore (lv' := [(9, .long r8), (7, .long w5), (5, .long w4), (0, .ref (G.2.2 0)), (1, .int v1), (2, .int v2), (3, .int v3), (4, .int v4)]) X.1 X.2.1 dX9_share_114 hl (by decide) rfl (fun ls hl => ?_)
          refine lv_lload X.1 X.2.1 dX9_share_116 (lv_at hl 1 rfl) ?_
          refine lv_aload_n X.1 X.2.1 dX9_share_118 rfl (lv_at hl 3 rfl) ?_
          refine gF X hw (by decide) hm_MO rfl (by decide +kernel) 7 (by decide) (ref := "RankBenchModel") rfl (by decide +kernel) rfl dX9_share_119 ?_
          refine cSL [.long w5, .long (M7.2 0 7)] [] X hw (c_X9_common l G A M7 w5 (M7.2 0 7)) (va_cwS 2 X.2.2.2.2 gX9_share_X9_common rfl rfl rfl (by decide +kernel) ⟨Nat.le_of_ble_eq_true rfl, Nat.le_of_ble_eq_true rfl⟩)  rfl rfl hl.1 (Nat.le_of_ble_eq_true rfl) dX9_share_122 ?_
          refine tnl (fun r9 er9 => ?_)
          refine lv_lstore (lv' := [(11, .long r9), (9, .long r8), (7, .long w5), (5, .long w4), (0, .ref (G.2.2 0)), (1, .int v1), (2, .int v2), (3, .int v3), (4, .int v4)]) X.1 X.2.1 dX9_share_125 hl (by decide) rfl (fun ls hl => ?_)
          refine lv_aload_n X.1 X.2.1 dX9_share_127 rfl (lv_at hl 4 rfl) ?_
          refine lv_aload_n X.1 X.2.1 dX9_share_128 rfl (lv_at hl 4 rfl) ?_
          refine gF X hw (by decide) hm_MO rfl (by decide +kernel) 6 (by decide) (ref := "RankBenchModel") rfl (by decide +kernel) rfl dX9_share_129 ?_
          refine lv_lload X.1 X.2.1 dX9_share_132 (lv_at hl 1 rfl) ?_
          refine lv_ldiv X.1 X.2.1 dX9_share_134 (ne_of er8 (cm_ne _ _ (by assumption))) ?_
          refine lv_lload X.1 X.2.1 dX9_share_135 (lv_at hl 2 rfl) ?_
          refine lv_lload X.1 X.2.1 dX9_share_137 (lv_at hl 0 rfl) ?_
          refine lv_ldiv X.1 X.2.1 dX9_share_139 (ne_of er9 (cm_ne _ _ (okM_nz hw.2.2.2.2))) ?_
          refine lv_lmul X.1 X.2.1 dX9_share_140 ?_
          refine lv_aload_n X.1 X.2.1 dX9_share_141 rfl (lv_at hl 4 rfl) ?_
          refine gF X hw (by decide) hm_MO rfl (by decide +kernel) 7 (by decide) (ref := "RankBenchModel") rfl (by decide +kernel) rfl dX9_share_142 ?_
          refine lv_lload X.1 X.2.1 dX9_share_145 (lv_at hl 0 rfl) ?_
          refine lv_ldiv X.1 X.2.1 dX9_share_147 (ne_of er9 (cm_ne _ _ (okM_nz hw.2.2.2.2))) ?_
          refine lv_lload X.1 X.2.1 dX9_share_148 (lv_at hl 3 rfl) ?_
          refine lv_lload X.1 X.2.1 dX9_share_150 (lv_at hl 1 rfl) ?_
          refine lv_ldiv X.1 X.2.1 dX9_share_152 (ne_of er8 (cm_ne _ _ (by assumption))) ?_
          refine lv_lmul X.1 X.2.1 dX9_share_153 ?_
          refine cVW [.long (((M7.2 0 6) / r8) * (w5 / r9)), .long (((M7.2 0 7) / r9) * (w4 / r8))] [] X hw hS (c_X9_make l G A M7 (((M7.2 0 6) / r8) * (w5 / r9)) (((M7.2 0 7) / r9) * (w4 / r8))) (cwV 2 X.2.2.2.2 gX9_share_X9_make rfl rfl rfl (by decide +kernel) ⟨Nat.le_of_ble_eq_true rfl, Nat.le_of_ble_eq_true rfl⟩) (hw.recv (by decide) hm_MO rfl) rfl rfl hl.1 (Nat.le_of_ble_eq_true rfl) dX9_share_154 (fun H locs hw hS => ?_)
          refine tpb (fun M10 eM10 => ?_)
          rw [← eM10] at hw
          exact rV X hr hlk hw hS dX9_share_157
        · skip
          refine lv_aload_n X.1 X.2.1 dX9_share_91 rfl (lv_at hl 2 rfl) ?_
          refine lv_lconst (v := 0) X.1 X.2.1 dX9_share_92 (by decide) ?_
          refine lv_lconst (v := 1) X.1 X.2.1 dX9_share_93 (by decide) ?_
          refine cVW [.long 0, .long 1] [] X hw hS (c_X9_make l G A M 0 1) (cwV 2 X.2.2.2.2 gX9_share_X9_make rfl rfl rfl (by decide +kernel) ⟨Nat.le_of_ble_eq_true rfl, Nat.le_of_ble_eq_true rfl⟩) (hw.recv (by decide) hm_MO rfl) rfl rfl hl.1 (Nat.le_of_ble_eq_true rfl) dX9_share_94 (fun H locs hw hS => ?_)
          refine tpb (fun M11 eM11 => ?_)
          rw [← eM11] at hw
          exact rV X hr hlk hw hS dX9_share_97
      · skip
        have t12 : 0 < v5.toInt := i_nle c2
        refine lv_aload_n X.1 X.2.1 dX9_share_17 rfl (lv_at hl 0 rfl) ?_
        refine lv_iload_n X.1 X.2.1 dX9_share_18 rfl (lv_at hl 2 rfl) ?_
        refine lv_iload X.1 X.2.1 dX9_share_19 (lv_at hl 5 rfl) ?_
        refine lv_iload X.1 X.2.1 dX9_share_21 (lv_at hl 5 rfl) ?_
        refine cVI [.int v2, .int v5, .int v5] [] X hw (c_X9_graded l G A M v2 v5 v5 (by omega)) (cwV 3 X.2.2.2.2 gX9_share_X9_graded rfl rfl rfl (by decide +kernel) ⟨Nat.le_of_ble_eq_true rfl, Nat.le_of_ble_eq_true rfl⟩) (hw.recv (by decide) hm_MO rfl) rfl rfl hl.1 (Nat.le_of_ble_eq_true rfl) dX9_share_23 ?_
        refine tni (fun r13 er13 => ?_)
        refine lv_istore (lv' := [(6, .int r13), (0, .ref (G.2.2 0)), (1, .int v1), (2, .int v2), (3, .int v3), (4, .int v4), (5, .int v5)]) X.1 X.2.1 dX9_share_26 hl (by decide) rfl (fun ls hl => ?_)
        refine lv_iconst (v := 0) X.1 X.2.1 dX9_share_28 (by decide) ?_
        refine lv_istore (lv' := [(7, .int 0), (6, .int r13), (0, .ref (G.2.2 0)), (1, .int v1), (2, .int v2), (3, .int v3), (4, .int v4), (5, .int v5)]) X.1 X.2.1 dX9_share_29 hl (by decide) rfl (fun ls hl => ?_)
        have L2 : ∀ (K : Mem → Int32 → Mem) (hK2 : ∀ (M : Mem) (y4 : Int32) (hx2_0 : 1 ≤ y4.toInt), ∀ (H : Heap) (locs : List Loc), WD false G A M s H → va_S A s.heap H locs → ∀ ls : Array Slot, lv_has ls 13 [(0, .ref (G.2.2 0)), (1, .int v1), (2, .int v2), (3, .int v3), (4, .int y4), (5, .int v5)] → W p l e ({ frames := 4, cells := 0, slots := 0, locals := 106 } : Room) s m ([.ref (G.2.2 0), .int a1, .int a2, .int a3] : List Value).toArray below meth c H locs 0 0 (TQv false G A below ([.ref (G.2.2 0), .int a1, .int a2, .int a3] : List Value).toArray s (K M y4)) (F0 m 66 ls [])) (n2 : Nat) (M : Mem) (u4 : Int32) (u7 : Int32) (hm2 : (r13.toInt - u7.toInt : Int).toNat < n2) (hi2_0 : 1 ≤ u4.toInt), ∀ (H : Heap) (locs : List Loc), WD false G A M s H → va_S A s.heap H locs → ∀ ls : Array Slot, lv_has ls 13 [(0, .ref (G.2.2 0)), (1, .int v1), (2, .int v2), (3, .int v3), (4, .int u4), (5, .int v5), (6, .int r13), (7, .int u7)] → W p l e ({ frames := 4, cells := 0, slots := 0, locals := 106 } : Room) s m ([.ref (G.2.2 0), .int a1, .int a2, .int a3] : List Value).toArray below meth c H locs 0 0 (TQv false G A below ([.ref (G.2.2 0), .int a1, .int a2, .int a3] : List Value).toArray s (f_X9_share_31 K n2 M v1 v2 v3 v5 r13 u4 u7)) (F0 m 31 ls []) := by
          intro K hK2 n2
          induction n2 with
          | zero => intro M u4 u7 hm2 hi2_0; exact absurd hm2 (by omega)
          | succ n2 ih2 =>
            intro M u4 u7 hm2 hi2_0 H locs hw hS ls hl
            rw [f_X9_share_31]
            refine lv_iload X.1 X.2.1 dX9_share_31 (lv_at hl 7 rfl) ?_
            refine lv_iload X.1 X.2.1 dX9_share_33 (lv_at hl 6 rfl) ?_
            refine bi_ge (tgt := 66) X dX9_share_35 (by decide) (fun c14 => ?_) (fun c14 => ?_)
            · skip
              have t15 : r13.toInt ≤ u7.toInt := i_le c14
              exact hK2 M u4 (by omega) _ _ hw hS ls (lv_sub hl [0, 1, 2, 3, 4, 5] rfl)
            · skip
              have t16 : u7.toInt < r13.toInt := i_nle c14
              refine lv_iload X.1 X.2.1 dX9_share_38 (lv_at hl 4 rfl) ?_
              refine lv_iload_n X.1 X.2.1 dX9_share_40 rfl (lv_at hl 3 rfl) ?_
              refine bi_gt (tgt := 66) X dX9_share_41 (by decide) (fun c17 => ?_) (fun c17 => ?_)
              · skip
                have t18 : v3.toInt < u4.toInt := i_lt c17
                exact hK2 M u4 (by omega) _ _ hw hS ls (lv_sub hl [0, 1, 2, 3, 4, 5] rfl)
              · skip
                have t19 : u4.toInt ≤ v3.toInt := i_nlt c17
                refine lv_aload_n X.1 X.2.1 dX9_share_44 rfl (lv_at hl 0 rfl) ?_
                refine lv_iload X.1 X.2.1 dX9_share_45 (lv_at hl 5 rfl) ?_
                refine cSI [.int v5] [.ref (G.2.2 0)] X hw (c_X9_worth l G A M v5) (va_cwS 1 X.2.2.2.2 gX9_share_X9_worth rfl rfl rfl (by decide +kernel) ⟨Nat.le_of_ble_eq_true rfl, Nat.le_of_ble_eq_true rfl⟩)  rfl rfl hl.1 (Nat.le_of_ble_eq_true rfl) dX9_share_47 ?_
                refine tni (fun r20 er20 => ?_)
                refine lv_i2l (v := r20.toInt64) X.1 X.2.1 dX9_share_50 rfl ?_
                refine lv_iload X.1 X.2.1 dX9_share_51 (lv_at hl 4 rfl) ?_
                refine lv_i2l (v := u4.toInt64) X.1 X.2.1 dX9_share_53 rfl ?_
                refine cVW [.long r20.toInt64, .long u4.toInt64] [] X hw hS (c_X9_plus l G A M r20.toInt64 u4.toInt64 (i2l_nz (by omega))) (cwV 2 X.2.2.2.2 gX9_share_X9_plus rfl rfl rfl (by decide +kernel) ⟨Nat.le_of_ble_eq_true rfl, Nat.le_of_ble_eq_true rfl⟩) (hw.recv (by decide) hm_MO rfl) rfl rfl hl.1 (Nat.le_of_ble_eq_true rfl) dX9_share_54 (fun H locs hw hS => ?_)
                refine tpb (fun M21 eM21 => ?_)
                rw [← eM21] at hw
                refine lv_iinc (v := (u4 + 1)) (lv' := [(4, .int (u4 + 1)), (0, .ref (G.2.2 0)), (1, .int v1), (2, .int v2), (3, .int v3), (5, .int v5), (6, .int r13), (7, .int u7)]) X.1 X.2.1 dX9_share_57 hl (k := 4) rfl rfl (by decide) rfl (fun ls hl => ?_)
                refine lv_iinc (v := (u7 + 1)) (lv' := [(7, .int (u7 + 1)), (4, .int (u4 + 1)), (0, .ref (G.2.2 0)), (1, .int v1), (2, .int v2), (3, .int v3), (5, .int v5), (6, .int r13)]) X.1 X.2.1 dX9_share_60 hl (k := 7) rfl rfl (by decide) rfl (fun ls hl => ?_)
                refine lv_goto (tgt := 31) X.1 X.2.1 dX9_share_63 (by decide) ?_
                have q22 := inc_sp u4
                have q23 := inc_sp u7
                have qrg := i_rg r13
                exact ih2 M21 (u4 + 1) (u7 + 1) (by omega) (by omega) _ _ hw hS ls (lv_sub hl [2, 3, 4, 5, 1, 6, 7, 0] rfl)
        refine L2 _ (fun M y4 hx2_0 H locs hw hS ls hl => ?_) ((r13.toInt - 0 : Int).toNat + 1) M v4 0 (Nat.lt_succ_self _) (by first | omega | decide) _ _ hw hS ls (lv_sub hl [2, 3, 4, 5, 6, 7, 1, 0] rfl)
        refine lv_iinc (v := (v5 + (-1))) (lv' := [(5, .int (v5 + (-1))), (0, .ref (G.2.2 0)), (1, .int v1), (2, .int v2), (3, .int v3), (4, .int y4)]) X.1 X.2.1 dX9_share_66 hl (k := 5) rfl rfl (by decide) rfl (fun ls hl => ?_)
        refine lv_goto (tgt := 12) X.1 X.2.1 dX9_share_69 (by decide) ?_
        exact ih1 M v1 v2 v3 y4 (v5 + (-1)) (dn1 (by assumption) (by assumption)) (dn2 (by assumption) (by assumption)) (by omega) (by omega) (by omega) (by omega) _ _ hw hS ls (lv_sub hl [1, 2, 3, 4, 5, 0] rfl)
  exact L1 4 M1 a1 a2 a3 1 3 (by decide) (by first | omega | decide) (by first | omega | decide) (by first | omega | decide) (by first | omega | decide) (by first | omega | decide) _ _ hw hS ls (lv_sub hl [2, 3, 4, 5, 1, 0] rfl)

def f_X9_preference_40 : Nat → Mem → Int32 → Int32 → Int32 → Int32 → Int64 → Int32 → Int32 → Mem
  | 0, M, _, _, _, _, _, _, _ => M
  | n1 + 1, M, v1, v2, v3, v4, v5, v7, v8 => bnd (f_X9_first M v1 v2 v3) (fun r5 => if r5 ≤ v8 then (if v4 = 0 then (bnd (f_X9_make M v5 1) (fun M14 => bnd (f_X9_rs M14 v2) (fun r15 => bnd (f_X9_over M14 r15.toInt64) (fun M16 => M16)))) else (bnd (f_X9_make M v5 v4.toInt64) (fun M10 => bnd (f_X9_rs M10 v2) (fun r11 => bnd (f_X9_over M10 r11.toInt64) (fun M12 => M12))))) else (bnd (f_X9_doc M v1 v2 v8) (fun r18 => bnd (f_X9_gradeOf M v2 r18) (fun r19 => if r19 ≤ 0 then (if r19 = 0 then (bnd (v7 + 1) (fun x27 => f_X9_preference_40 n1 M v1 v2 v3 v4 v5 x27 (v8 + 1))) else (bnd (v7 + 0) (fun x24 => f_X9_preference_40 n1 M v1 v2 v3 v4 v5 x24 (v8 + 1)))) else (if v4 = 0 then (bnd (v5 + 1) (fun w55 => if r19 = 0 then (bnd (v7 + 1) (fun x61 => f_X9_preference_40 n1 M v1 v2 v3 v4 w55 x61 (v8 + 1))) else (bnd (v7 + 0) (fun x58 => f_X9_preference_40 n1 M v1 v2 v3 v4 w55 x58 (v8 + 1))))) else (if v4 ≤ v7 then (bnd (v5 + (v4 - v4).toInt64) (fun w35 => if r19 = 0 then (bnd (v7 + 1) (fun x41 => f_X9_preference_40 n1 M v1 v2 v3 v4 w35 x41 (v8 + 1))) else (bnd (v7 + 0) (fun x38 => f_X9_preference_40 n1 M v1 v2 v3 v4 w35 x38 (v8 + 1))))) else (bnd (v5 + (v4 - v7).toInt64) (fun w45 => if r19 = 0 then (bnd (v7 + 1) (fun x51 => f_X9_preference_40 n1 M v1 v2 v3 v4 w45 x51 (v8 + 1))) else (bnd (v7 + 0) (fun x48 => f_X9_preference_40 n1 M v1 v2 v3 v4 w45 x48 (v8 + 1)))))))))))
def f_X9_preference (M : Mem) (a1 : Int32) (a2 : Int32) (a3 : Int32) : Mem := bnd (f_X9_graded M a2 0 0) (fun r1 => bnd (f_X9_rs M a2) (fun r2 => if r1 ≤ r2 then (f_X9_preference_40 17 M a1 a2 a3 r1 0 0 0) else (bnd (f_X9_rs M a2) (fun r65 => f_X9_preference_40 17 M a1 a2 a3 r65 0 0 0))))
set_option maxRecDepth 100000 in
set_option maxHeartbeats 4000000 in
theorem c_X9_preference (l : Launch) (G : En) (A : Nat → Prop) (M : Mem) (a1 : Int32) (a2 : Int32) (a3 : Int32) (hra : 0 ≤ a1.toInt ∧ a1.toInt < 4) (hqa : 0 ≤ a2.toInt ∧ a2.toInt < 8) : WrV false l yX9_preference wsX9_preference ({ frames := 3, cells := 0, slots := 0, locals := 79 }) G A M [.ref (G.2.2 0), .int a1, .int a2, .int a3] (f_X9_preference M a1 a2 a3) := by
  refine WrV.of (cc := cX9_preference) (maxL := 10) (ret := none) (own := RX9) (by decide) rfl rfl (Nat.le_of_ble_eq_true rfl) ?_
  intro p e s m below meth c X hw hr hlk ls hl hS
  have hl : lv_has ls 10 [(0, .ref (G.2.2 0)), (1, .int a1), (2, .int a2), (3, .int a3)] := hl
  unfold f_X9_preference
  refine lv_aload_n X.1 X.2.1 dX9_preference_0 rfl (lv_at hl 0 rfl) ?_
  refine lv_iload_n X.1 X.2.1 dX9_preference_1 rfl (lv_at hl 2 rfl) ?_
  refine lv_iconst (v := 0) X.1 X.2.1 dX9_preference_2 (by decide) ?_
  refine lv_iconst (v := 0) X.1 X.2.1 dX9_preference_3 (by decide) ?_
  refine cVI [.int a2, .int 0, .int 0] [] X hw (c_X9_graded l G A M a2 0 0 (by omega)) (cwV 3 X.2.2.2.2 gX9_preference_X9_graded rfl rfl rfl (by decide +kernel) ⟨Nat.le_of_ble_eq_true rfl, Nat.le_of_ble_eq_true rfl⟩) (hw.recv (by decide) hm_MO rfl) rfl rfl hl.1 (Nat.le_of_ble_eq_true rfl) dX9_preference_4 ?_
  refine tni (fun r1 er1 => ?_)
  refine lv_istore (lv' := [(4, .int r1), (0, .ref (G.2.2 0)), (1, .int a1), (2, .int a2), (3, .int a3)]) X.1 X.2.1 dX9_preference_7 hl (by decide) rfl (fun ls hl => ?_)
  refine lv_aload_n X.1 X.2.1 dX9_preference_9 rfl (lv_at hl 1 rfl) ?_
  refine lv_iload_n X.1 X.2.1 dX9_preference_10 rfl (lv_at hl 3 rfl) ?_
  refine cVI [.int a2] [] X hw (c_X9_rs l G A M a2 (by omega)) (cwV 1 X.2.2.2.2 gX9_preference_X9_rs rfl rfl rfl (by decide +kernel) ⟨Nat.le_of_ble_eq_true rfl, Nat.le_of_ble_eq_true rfl⟩) (hw.recv (by decide) hm_MO rfl) rfl rfl hl.1 (Nat.le_of_ble_eq_true rfl) dX9_preference_11 ?_
  refine tni (fun r2 er2 => ?_)
  refine lv_iload X.1 X.2.1 dX9_preference_14 (lv_at hl 0 rfl) ?_
  refine bi_ge (tgt := 27) X dX9_preference_16 (by decide) (fun c3 => ?_) (fun c3 => ?_)
  · skip
    have t4 : r1.toInt ≤ r2.toInt := i_le c3
    refine lv_iload X.1 X.2.1 dX9_preference_27 (lv_at hl 0 rfl) ?_
    refine lv_istore (lv' := [(4, .int r1), (0, .ref (G.2.2 0)), (1, .int a1), (2, .int a2), (3, .int a3)]) X.1 X.2.1 dX9_preference_29 hl (by decide) rfl (fun ls hl => ?_)
    refine lv_lconst (v := 0) X.1 X.2.1 dX9_preference_31 (by decide) ?_
    refine lv_lstore (lv' := [(5, .long 0), (4, .int r1), (0, .ref (G.2.2 0)), (1, .int a1), (2, .int a2), (3, .int a3)]) X.1 X.2.1 dX9_preference_32 hl (by decide) rfl (fun ls hl => ?_)
    refine lv_iconst (v := 0) X.1 X.2.1 dX9_preference_34 (by decide) ?_
    refine lv_istore (lv' := [(7, .int 0), (5, .long 0), (4, .int r1), (0, .ref (G.2.2 0)), (1, .int a1), (2, .int a2), (3, .int a3)]) X.1 X.2.1 dX9_preference_35 hl (by decide) rfl (fun ls hl => ?_)
    refine lv_iconst (v := 0) X.1 X.2.1 dX9_preference_37 (by decide) ?_
    refine lv_istore (lv' := [(8, .int 0), (7, .int 0), (5, .long 0), (4, .int r1), (0, .ref (G.2.2 0)), (1, .int a1), (2, .int a2), (3, .int a3)]) X.1 X.2.1 dX9_preference_38 hl (by decide) rfl (fun ls hl => ?_)
    have L1 : ∀ (n1 : Nat) (v1 : Int32) (v2 : Int32) (v3 : Int32) (v4 : Int32) (v5 : Int64) (v7 : Int32) (v8 : Int32)  (hm1 : (16 - v8.toInt : Int).toNat < n1) (hi1_0 : 0 ≤ v8.toInt) (hi1_1 : 0 ≤ v1.toInt ∧ v1.toInt < 4) (hi1_2 : 0 ≤ v2.toInt ∧ v2.toInt < 8), ∀ (H : Heap) (locs : List Loc), WD false G A M s H → va_S A s.heap H locs → ∀ ls : Array Slot, lv_has ls 10 [(0, .ref (G.2.2 0)), (1, .int v1), (2, .int v2), (3, .int v3), (4, .int v4), (5, .long v5), (7, .int v7), (8, .int v8)] → W p l e ({ frames := 3, cells := 0, slots := 0, locals := 79 } : Room) s m ([.ref (G.2.2 0), .int a1, .int a2, .int a3] : List Value).toArray below meth c H locs 0 0 (TQv false G A below ([.ref (G.2.2 0), .int a1, .int a2, .int a3] : List Value).toArray s (f_X9_preference_40 n1 M v1 v2 v3 v4 v5 v7 v8)) (F0 m 40 ls []) := by
      intro n1
      induction n1 with
      | zero => intro v1 v2 v3 v4 v5 v7 v8 hm1 hi1_0 hi1_1 hi1_2; exact absurd hm1 (by omega)
      | succ n1 ih1 =>
        intro v1 v2 v3 v4 v5 v7 v8 hm1 hi1_0 hi1_1 hi1_2 H locs hw hS ls hl
        rw [f_X9_preference_40]
        refine lv_iload X.1 X.2.1 dX9_preference_40 (lv_at hl 7 rfl) ?_
        refine lv_aload_n X.1 X.2.1 dX9_preference_42 rfl (lv_at hl 0 rfl) ?_
        refine lv_iload_n X.1 X.2.1 dX9_preference_43 rfl (lv_at hl 1 rfl) ?_
        refine lv_iload_n X.1 X.2.1 dX9_preference_44 rfl (lv_at hl 2 rfl) ?_
        refine lv_iload_n X.1 X.2.1 dX9_preference_45 rfl (lv_at hl 3 rfl) ?_
        refine cVI [.int v1, .int v2, .int v3] [.int v8] X hw (c_X9_first l G A M v1 v2 v3 (by omega) (by omega)) (cwV 3 X.2.2.2.2 gX9_preference_X9_first rfl rfl rfl (by decide +kernel) ⟨Nat.le_of_ble_eq_true rfl, Nat.le_of_ble_eq_true rfl⟩) (hw.recv (by decide) hm_MO rfl) rfl rfl hl.1 (Nat.le_of_ble_eq_true rfl) dX9_preference_46 ?_
        refine tni (fun r5 er5 => ?_)
        have zr5 := g_X9_first hw.2.2.2.2 er5 (by omega) (by omega)
        refine bi_ge (tgt := 125) X dX9_preference_49 (by decide) (fun c6 => ?_) (fun c6 => ?_)
        · skip
          have t7 : r5.toInt ≤ v8.toInt := i_le c6
          refine lv_aload_n X.1 X.2.1 dX9_preference_125 rfl (lv_at hl 0 rfl) ?_
          refine lv_lload X.1 X.2.1 dX9_preference_126 (lv_at hl 5 rfl) ?_
          refine lv_iload X.1 X.2.1 dX9_preference_128 (lv_at hl 4 rfl) ?_
          refine bz_ne (tgt := 137) X dX9_preference_130 (by decide) (fun c8 => ?_) (fun c8 => ?_)
          · skip
            have t9 : ¬ v4.toInt = 0 := i_ne c8
            refine lv_iload X.1 X.2.1 dX9_preference_137 (lv_at hl 4 rfl) ?_
            refine lv_i2l (v := v4.toInt64) X.1 X.2.1 dX9_preference_139 rfl ?_
            refine cVW [.long v5, .long v4.toInt64] [] X hw hS (c_X9_make l G A M v5 v4.toInt64) (cwV 2 X.2.2.2.2 gX9_preference_X9_make rfl rfl rfl (by decide +kernel) ⟨Nat.le_of_ble_eq_true rfl, Nat.le_of_ble_eq_true rfl⟩) (hw.recv (by decide) hm_MO rfl) rfl rfl hl.1 (Nat.le_of_ble_eq_true rfl) dX9_preference_140 (fun H locs hw hS => ?_)
            refine tpb (fun M10 eM10 => ?_)
            rw [← eM10] at hw
            refine lv_aload_n X.1 X.2.1 dX9_preference_143 rfl (lv_at hl 0 rfl) ?_
            refine lv_aload_n X.1 X.2.1 dX9_preference_144 rfl (lv_at hl 0 rfl) ?_
            refine lv_iload_n X.1 X.2.1 dX9_preference_145 rfl (lv_at hl 2 rfl) ?_
            refine cVI [.int v2] [.ref (G.2.2 0)] X hw (c_X9_rs l G A M10 v2 (by omega)) (cwV 1 X.2.2.2.2 gX9_preference_X9_rs rfl rfl rfl (by decide +kernel) ⟨Nat.le_of_ble_eq_true rfl, Nat.le_of_ble_eq_true rfl⟩) (hw.recv (by decide) hm_MO rfl) rfl rfl hl.1 (Nat.le_of_ble_eq_true rfl) dX9_preference_146 ?_
            refine tni (fun r11 er11 => ?_)
            refine lv_i2l (v := r11.toInt64) X.1 X.2.1 dX9_preference_149 rfl ?_
            refine cVW [.long r11.toInt64] [] X hw hS (c_X9_over l G A M10 r11.toInt64) (cwV 1 X.2.2.2.2 gX9_preference_X9_over rfl rfl rfl (by decide +kernel) ⟨Nat.le_of_ble_eq_true rfl, Nat.le_of_ble_eq_true rfl⟩) (hw.recv (by decide) hm_MO rfl) rfl rfl hl.1 (Nat.le_of_ble_eq_true rfl) dX9_preference_150 (fun H locs hw hS => ?_)
            refine tpb (fun M12 eM12 => ?_)
            rw [← eM12] at hw
            exact rV X hr hlk hw hS dX9_preference_153
          · skip
            have t13 : v4.toInt = 0 := i_eq c8
            refine lv_lconst (v := 1) X.1 X.2.1 dX9_preference_133 (by decide) ?_
            refine lv_goto (tgt := 140) X.1 X.2.1 dX9_preference_134 (by decide) ?_
            refine cVW [.long v5, .long 1] [] X hw hS (c_X9_make l G A M v5 1) (cwV 2 X.2.2.2.2 gX9_preference_X9_make rfl rfl rfl (by decide +kernel) ⟨Nat.le_of_ble_eq_true rfl, Nat.le_of_ble_eq_true rfl⟩) (hw.recv (by decide) hm_MO rfl) rfl rfl hl.1 (Nat.le_of_ble_eq_true rfl) dX9_preference_140 (fun H locs hw hS => ?_)
            refine tpb (fun M14 eM14 => ?_)
            rw [← eM14] at hw
            refine lv_aload_n X.1 X.2.1 dX9_preference_143 rfl (lv_at hl 0 rfl) ?_
            refine lv_aload_n X.1 X.2.1 dX9_preference_144 rfl (lv_at hl 0 rfl) ?_
            refine lv_iload_n X.1 X.2.1 dX9_preference_145 rfl (lv_at hl 2 rfl) ?_
            refine cVI [.int v2] [.ref (G.2.2 0)] X hw (c_X9_rs l G A M14 v2 (by omega)) (cwV 1 X.2.2.2.2 gX9_preference_X9_rs rfl rfl rfl (by decide +kernel) ⟨Nat.le_of_ble_eq_true rfl, Nat.le_of_ble_eq_true rfl⟩) (hw.recv (by decide) hm_MO rfl) rfl rfl hl.1 (Nat.le_of_ble_eq_true rfl) dX9_preference_146 ?_
            refine tni (fun r15 er15 => ?_)
            refine lv_i2l (v := r15.toInt64) X.1 X.2.1 dX9_preference_149 rfl ?_
            refine cVW [.long r15.toInt64] [] X hw hS (c_X9_over l G A M14 r15.toInt64) (cwV 1 X.2.2.2.2 gX9_preference_X9_over rfl rfl rfl (by decide +kernel) ⟨Nat.le_of_ble_eq_true rfl, Nat.le_of_ble_eq_true rfl⟩) (hw.recv (by decide) hm_MO rfl) rfl rfl hl.1 (Nat.le_of_ble_eq_true rfl) dX9_preference_150 (fun H locs hw hS => ?_)
            refine tpb (fun M16 eM16 => ?_)
            rw [← eM16] at hw
            exact rV X hr hlk hw hS dX9_preference_153
        · skip
          have t17 : v8.toInt < r5.toInt := i_nle c6
          refine lv_aload_n X.1 X.2.1 dX9_preference_52 rfl (lv_at hl 0 rfl) ?_
          refine lv_iload_n X.1 X.2.1 dX9_preference_53 rfl (lv_at hl 2 rfl) ?_
          refine lv_aload_n X.1 X.2.1 dX9_preference_54 rfl (lv_at hl 0 rfl) ?_
          refine lv_iload_n X.1 X.2.1 dX9_preference_55 rfl (lv_at hl 1 rfl) ?_
          refine lv_iload_n X.1 X.2.1 dX9_preference_56 rfl (lv_at hl 2 rfl) ?_
          refine lv_iload X.1 X.2.1 dX9_preference_57 (lv_at hl 7 rfl) ?_
          refine cVI [.int v1, .int v2, .int v8] [.int v2, .ref (G.2.2 0)] X hw (c_X9_doc l G A M v1 v2 v8 (by omega) (by omega) (by omega)) (cwV 3 X.2.2.2.2 gX9_preference_X9_doc rfl rfl rfl (by decide +kernel) ⟨Nat.le_of_ble_eq_true rfl, Nat.le_of_ble_eq_true rfl⟩) (hw.recv (by decide) hm_MO rfl) rfl rfl hl.1 (Nat.le_of_ble_eq_true rfl) dX9_preference_59 ?_
          refine tni (fun r18 er18 => ?_)
          have zr18 := g_X9_doc hw.2.2.2.2 er18 (by omega) (by omega) (by omega)
          refine cVI [.int v2, .int r18] [] X hw (c_X9_gradeOf l G A M v2 r18 (by omega) (by omega)) (cwV 2 X.2.2.2.2 gX9_preference_X9_gradeOf rfl rfl rfl (by decide +kernel) ⟨Nat.le_of_ble_eq_true rfl, Nat.le_of_ble_eq_true rfl⟩) (hw.recv (by decide) hm_MO rfl) rfl rfl hl.1 (Nat.le_of_ble_eq_true rfl) dX9_preference_62 ?_
          refine tni (fun r19 er19 => ?_)
          refine lv_istore (lv' := [(9, .int r19), (0, .ref (G.2.2 0)), (1, .int v1), (2, .int v2), (3, .int v3), (4, .int v4), (5, .long v5), (7, .int v7), (8, .int v8)]) X.1 X.2.1 dX9_preference_65 hl (by decide) rfl (fun ls hl => ?_)
          refine lv_iload X.1 X.2.1 dX9_preference_67 (lv_at hl 0 rfl) ?_
          refine bz_le (tgt := 104) X dX9_preference_69 (by decide) (fun c20 => ?_) (fun c20 => ?_)
          · skip
            have t21 : r19.toInt ≤ 0 := i_le c20
            refine lv_iload X.1 X.2.1 dX9_preference_104 (lv_at hl 7 rfl) ?_
            refine lv_iload X.1 X.2.1 dX9_preference_106 (lv_at hl 0 rfl) ?_
            refine bz_ne (tgt := 115) X dX9_preference_108 (by decide) (fun c22 => ?_) (fun c22 => ?_)
            · skip
              have t23 : ¬ r19.toInt = 0 := i_ne c22
              refine lv_iconst (v := 0) X.1 X.2.1 dX9_preference_115 (by decide) ?_
              refine lv_iadd X.1 X.2.1 dX9_preference_116 ?_
              refine tni (fun x24 ex24 => ?_)
              refine lv_istore (lv' := [(7, .int x24), (9, .int r19), (0, .ref (G.2.2 0)), (1, .int v1), (2, .int v2), (3, .int v3), (4, .int v4), (5, .long v5), (8, .int v8)]) X.1 X.2.1 dX9_preference_117 hl (by decide) rfl (fun ls hl => ?_)
              refine lv_iinc (v := (v8 + 1)) (lv' := [(8, .int (v8 + 1)), (7, .int x24), (9, .int r19), (0, .ref (G.2.2 0)), (1, .int v1), (2, .int v2), (3, .int v3), (4, .int v4), (5, .long v5)]) X.1 X.2.1 dX9_preference_119 hl (k := 8) rfl rfl (by decide) rfl (fun ls hl => ?_)
              refine lv_goto (tgt := 40) X.1 X.2.1 dX9_preference_122 (by decide) ?_
              have q25 := inc_sp v8
              exact ih1 v1 v2 v3 v4 v5 x24 (v8 + 1) (by omega) (by omega) (by omega) (by omega) _ _ hw hS ls (lv_sub hl [3, 4, 5, 6, 7, 8, 1, 0] rfl)
            · skip
              have t26 : r19.toInt = 0 := i_eq c22
              refine lv_iconst (v := 1) X.1 X.2.1 dX9_preference_111 (by decide) ?_
              refine lv_goto (tgt := 116) X.1 X.2.1 dX9_preference_112 (by decide) ?_
              refine lv_iadd X.1 X.2.1 dX9_preference_116 ?_
              refine tni (fun x27 ex27 => ?_)
              have q28 := inc_sp v7
              rw [← ex27] at q28
              refine lv_istore (lv' := [(7, .int x27), (9, .int r19), (0, .ref (G.2.2 0)), (1, .int v1), (2, .int v2), (3, .int v3), (4, .int v4), (5, .long v5), (8, .int v8)]) X.1 X.2.1 dX9_preference_117 hl (by decide) rfl (fun ls hl => ?_)
              refine lv_iinc (v := (v8 + 1)) (lv' := [(8, .int (v8 + 1)), (7, .int x27), (9, .int r19), (0, .ref (G.2.2 0)), (1, .int v1), (2, .int v2), (3, .int v3), (4, .int v4), (5, .long v5)]) X.1 X.2.1 dX9_preference_119 hl (k := 8) rfl rfl (by decide) rfl (fun ls hl => ?_)
              refine lv_goto (tgt := 40) X.1 X.2.1 dX9_preference_122 (by decide) ?_
              have q29 := inc_sp v8
              exact ih1 v1 v2 v3 v4 v5 x27 (v8 + 1) (by omega) (by omega) (by omega) (by omega) _ _ hw hS ls (lv_sub hl [3, 4, 5, 6, 7, 8, 1, 0] rfl)
          · skip
            have t30 : 0 < r19.toInt := i_nle c20
            refine lv_lload X.1 X.2.1 dX9_preference_72 (lv_at hl 6 rfl) ?_
            refine lv_iload X.1 X.2.1 dX9_preference_74 (lv_at hl 5 rfl) ?_
            refine bz_ne (tgt := 83) X dX9_preference_76 (by decide) (fun c31 => ?_) (fun c31 => ?_)
            · skip
              have t32 : ¬ v4.toInt = 0 := i_ne c31
              refine lv_iload X.1 X.2.1 dX9_preference_83 (lv_at hl 5 rfl) ?_
              refine lv_iload X.1 X.2.1 dX9_preference_85 (lv_at hl 7 rfl) ?_
              refine lv_iload X.1 X.2.1 dX9_preference_87 (lv_at hl 5 rfl) ?_
              refine bi_ge (tgt := 97) X dX9_preference_89 (by decide) (fun c33 => ?_) (fun c33 => ?_)
              · skip
                have t34 : v4.toInt ≤ v7.toInt := i_le c33
                refine lv_iload X.1 X.2.1 dX9_preference_97 (lv_at hl 5 rfl) ?_
                refine lv_isub X.1 X.2.1 dX9_preference_99 ?_
                refine lv_i2l (v := (v4 - v4).toInt64) X.1 X.2.1 dX9_preference_100 rfl ?_
                refine lv_ladd X.1 X.2.1 dX9_preference_101 ?_
                refine tnl (fun w35 ew35 => ?_)
                refine lv_lstore (lv' := [(5, .long w35), (9, .int r19), (0, .ref (G.2.2 0)), (1, .int v1), (2, .int v2), (3, .int v3), (4, .int v4), (7, .int v7), (8, .int v8)]) X.1 X.2.1 dX9_preference_102 hl (by decide) rfl (fun ls hl => ?_)
                refine lv_iload X.1 X.2.1 dX9_preference_104 (lv_at hl 7 rfl) ?_
                refine lv_iload X.1 X.2.1 dX9_preference_106 (lv_at hl 1 rfl) ?_
                refine bz_ne (tgt := 115) X dX9_preference_108 (by decide) (fun c36 => ?_) (fun c36 => ?_)
                · skip
                  have t37 : ¬ r19.toInt = 0 := i_ne c36
                  refine lv_iconst (v := 0) X.1 X.2.1 dX9_preference_115 (by decide) ?_
                  refine lv_iadd X.1 X.2.1 dX9_preference_116 ?_
                  refine tni (fun x38 ex38 => ?_)
                  refine lv_istore (lv' := [(7, .int x38), (5, .long w35), (9, .int r19), (0, .ref (G.2.2 0)), (1, .int v1), (2, .int v2), (3, .int v3), (4, .int v4), (8, .int v8)]) X.1 X.2.1 dX9_preference_117 hl (by decide) rfl (fun ls hl => ?_)
                  refine lv_iinc (v := (v8 + 1)) (lv' := [(8, .int (v8 + 1)), (7, .int x38), (5, .long w35), (9, .int r19), (0, .ref (G.2.2 0)), (1, .int v1), (2, .int v2), (3, .int v3), (4, .int v4)]) X.1 X.2.1 dX9_preference_119 hl (k := 8) rfl rfl (by decide) rfl (fun ls hl => ?_)
                  refine lv_goto (tgt := 40) X.1 X.2.1 dX9_preference_122 (by decide) ?_
                  have q39 := inc_sp v8
                  exact ih1 v1 v2 v3 v4 w35 x38 (v8 + 1) (by omega) (by omega) (by omega) (by omega) _ _ hw hS ls (lv_sub hl [4, 5, 6, 7, 8, 2, 1, 0] rfl)
                · skip
                  have t40 : r19.toInt = 0 := i_eq c36
                  refine lv_iconst (v := 1) X.1 X.2.1 dX9_preference_111 (by decide) ?_
                  refine lv_goto (tgt := 116) X.1 X.2.1 dX9_preference_112 (by decide) ?_
                  refine lv_iadd X.1 X.2.1 dX9_preference_116 ?_
                  refine tni (fun x41 ex41 => ?_)
                  have q42 := inc_sp v7
                  rw [← ex41] at q42
                  refine lv_istore (lv' := [(7, .int x41), (5, .long w35), (9, .int r19), (0, .ref (G.2.2 0)), (1, .int v1), (2, .int v2), (3, .int v3), (4, .int v4), (8, .int v8)]) X.1 X.2.1 dX9_preference_117 hl (by decide) rfl (fun ls hl => ?_)
                  refine lv_iinc (v := (v8 + 1)) (lv' := [(8, .int (v8 + 1)), (7, .int x41), (5, .long w35), (9, .int r19), (0, .ref (G.2.2 0)), (1, .int v1), (2, .int v2), (3, .int v3), (4, .int v4)]) X.1 X.2.1 dX9_preference_119 hl (k := 8) rfl rfl (by decide) rfl (fun ls hl => ?_)
                  refine lv_goto (tgt := 40) X.1 X.2.1 dX9_preference_122 (by decide) ?_
                  have q43 := inc_sp v8
                  exact ih1 v1 v2 v3 v4 w35 x41 (v8 + 1) (by omega) (by omega) (by omega) (by omega) _ _ hw hS ls (lv_sub hl [4, 5, 6, 7, 8, 2, 1, 0] rfl)
              · skip
                have t44 : v7.toInt < v4.toInt := i_nle c33
                refine lv_iload X.1 X.2.1 dX9_preference_92 (lv_at hl 7 rfl) ?_
                refine lv_goto (tgt := 99) X.1 X.2.1 dX9_preference_94 (by decide) ?_
                refine lv_isub X.1 X.2.1 dX9_preference_99 ?_
                refine lv_i2l (v := (v4 - v7).toInt64) X.1 X.2.1 dX9_preference_100 rfl ?_
                refine lv_ladd X.1 X.2.1 dX9_preference_101 ?_
                refine tnl (fun w45 ew45 => ?_)
                refine lv_lstore (lv' := [(5, .long w45), (9, .int r19), (0, .ref (G.2.2 0)), (1, .int v1), (2, .int v2), (3, .int v3), (4, .int v4), (7, .int v7), (8, .int v8)]) X.1 X.2.1 dX9_preference_102 hl (by decide) rfl (fun ls hl => ?_)
                refine lv_iload X.1 X.2.1 dX9_preference_104 (lv_at hl 7 rfl) ?_
                refine lv_iload X.1 X.2.1 dX9_preference_106 (lv_at hl 1 rfl) ?_
                refine bz_ne (tgt := 115) X dX9_preference_108 (by decide) (fun c46 => ?_) (fun c46 => ?_)
                · skip
                  have t47 : ¬ r19.toInt = 0 := i_ne c46
                  refine lv_iconst (v := 0) X.1 X.2.1 dX9_preference_115 (by decide) ?_
                  refine lv_iadd X.1 X.2.1 dX9_preference_116 ?_
                  refine tni (fun x48 ex48 => ?_)
                  refine lv_istore (lv' := [(7, .int x48), (5, .long w45), (9, .int r19), (0, .ref (G.2.2 0)), (1, .int v1), (2, .int v2), (3, .int v3), (4, .int v4), (8, .int v8)]) X.1 X.2.1 dX9_preference_117 hl (by decide) rfl (fun ls hl => ?_)
                  refine lv_iinc (v := (v8 + 1)) (lv' := [(8, .int (v8 + 1)), (7, .int x48), (5, .long w45), (9, .int r19), (0, .ref (G.2.2 0)), (1, .int v1), (2, .int v2), (3, .int v3), (4, .int v4)]) X.1 X.2.1 dX9_preference_119 hl (k := 8) rfl rfl (by decide) rfl (fun ls hl => ?_)
                  refine lv_goto (tgt := 40) X.1 X.2.1 dX9_preference_122 (by decide) ?_
                  have q49 := inc_sp v8
                  exact ih1 v1 v2 v3 v4 w45 x48 (v8 + 1) (by omega) (by omega) (by omega) (by omega) _ _ hw hS ls (lv_sub hl [4, 5, 6, 7, 8, 2, 1, 0] rfl)
                · skip
                  have t50 : r19.toInt = 0 := i_eq c46
                  refine lv_iconst (v := 1) X.1 X.2.1 dX9_preference_111 (by decide) ?_
                  refine lv_goto (tgt := 116) X.1 X.2.1 dX9_preference_112 (by decide) ?_
                  refine lv_iadd X.1 X.2.1 dX9_preference_116 ?_
                  refine tni (fun x51 ex51 => ?_)
                  have q52 := inc_sp v7
                  rw [← ex51] at q52
                  refine lv_istore (lv' := [(7, .int x51), (5, .long w45), (9, .int r19), (0, .ref (G.2.2 0)), (1, .int v1), (2, .int v2), (3, .int v3), (4, .int v4), (8, .int v8)]) X.1 X.2.1 dX9_preference_117 hl (by decide) rfl (fun ls hl => ?_)
                  refine lv_iinc (v := (v8 + 1)) (lv' := [(8, .int (v8 + 1)), (7, .int x51), (5, .long w45), (9, .int r19), (0, .ref (G.2.2 0)), (1, .int v1), (2, .int v2), (3, .int v3), (4, .int v4)]) X.1 X.2.1 dX9_preference_119 hl (k := 8) rfl rfl (by decide) rfl (fun ls hl => ?_)
                  refine lv_goto (tgt := 40) X.1 X.2.1 dX9_preference_122 (by decide) ?_
                  have q53 := inc_sp v8
                  exact ih1 v1 v2 v3 v4 w45 x51 (v8 + 1) (by omega) (by omega) (by omega) (by omega) _ _ hw hS ls (lv_sub hl [4, 5, 6, 7, 8, 2, 1, 0] rfl)
            · skip
              have t54 : v4.toInt = 0 := i_eq c31
              refine lv_lconst (v := 1) X.1 X.2.1 dX9_preference_79 (by decide) ?_
              refine lv_goto (tgt := 101) X.1 X.2.1 dX9_preference_80 (by decide) ?_
              refine lv_ladd X.1 X.2.1 dX9_preference_101 ?_
              refine tnl (fun w55 ew55 => ?_)
              refine lv_lstore (lv' := [(5, .long w55), (9, .int r19), (0, .ref (G.2.2 0)), (1, .int v1), (2, .int v2), (3, .int v3), (4, .int v4), (7, .int v7), (8, .int v8)]) X.1 X.2.1 dX9_preference_102 hl (by decide) rfl (fun ls hl => ?_)
              refine lv_iload X.1 X.2.1 dX9_preference_104 (lv_at hl 7 rfl) ?_
              refine lv_iload X.1 X.2.1 dX9_preference_106 (lv_at hl 1 rfl) ?_
              refine bz_ne (tgt := 115) X dX9_preference_108 (by decide) (fun c56 => ?_) (fun c56 => ?_)
              · skip
                have t57 : ¬ r19.toInt = 0 := i_ne c56
                refine lv_iconst (v := 0) X.1 X.2.1 dX9_preference_115 (by decide) ?_
                refine lv_iadd X.1 X.2.1 dX9_preference_116 ?_
                refine tni (fun x58 ex58 => ?_)
                refine lv_istore (lv' := [(7, .int x58), (5, .long w55), (9, .int r19), (0, .ref (G.2.2 0)), (1, .int v1), (2, .int v2), (3, .int v3), (4, .int v4), (8, .int v8)]) X.1 X.2.1 dX9_preference_117 hl (by decide) rfl (fun ls hl => ?_)
                refine lv_iinc (v := (v8 + 1)) (lv' := [(8, .int (v8 + 1)), (7, .int x58), (5, .long w55), (9, .int r19), (0, .ref (G.2.2 0)), (1, .int v1), (2, .int v2), (3, .int v3), (4, .int v4)]) X.1 X.2.1 dX9_preference_119 hl (k := 8) rfl rfl (by decide) rfl (fun ls hl => ?_)
                refine lv_goto (tgt := 40) X.1 X.2.1 dX9_preference_122 (by decide) ?_
                have q59 := inc_sp v8
                exact ih1 v1 v2 v3 v4 w55 x58 (v8 + 1) (by omega) (by omega) (by omega) (by omega) _ _ hw hS ls (lv_sub hl [4, 5, 6, 7, 8, 2, 1, 0] rfl)
              · skip
                have t60 : r19.toInt = 0 := i_eq c56
                refine lv_iconst (v := 1) X.1 X.2.1 dX9_preference_111 (by decide) ?_
                refine lv_goto (tgt := 116) X.1 X.2.1 dX9_preference_112 (by decide) ?_
                refine lv_iadd X.1 X.2.1 dX9_preference_116 ?_
                refine tni (fun x61 ex61 => ?_)
                have q62 := inc_sp v7
                rw [← ex61] at q62
                refine lv_istore (lv' := [(7, .int x61), (5, .long w55), (9, .int r19), (0, .ref (G.2.2 0)), (1, .int v1), (2, .int v2), (3, .int v3), (4, .int v4), (8, .int v8)]) X.1 X.2.1 dX9_preference_117 hl (by decide) rfl (fun ls hl => ?_)
                refine lv_iinc (v := (v8 + 1)) (lv' := [(8, .int (v8 + 1)), (7, .int x61), (5, .long w55), (9, .int r19), (0, .ref (G.2.2 0)), (1, .int v1), (2, .int v2), (3, .int v3), (4, .int v4)]) X.1 X.2.1 dX9_preference_119 hl (k := 8) rfl rfl (by decide) rfl (fun ls hl => ?_)
                refine lv_goto (tgt := 40) X.1 X.2.1 dX9_preference_122 (by decide) ?_
                have q63 := inc_sp v8
                exact ih1 v1 v2 v3 v4 w55 x61 (v8 + 1) (by omega) (by omega) (by omega) (by omega) _ _ hw hS ls (lv_sub hl [4, 5, 6, 7, 8, 2, 1, 0] rfl)
    exact L1 17 a1 a2 a3 r1 0 0 0 (by decide) (by first | omega | decide) (by first | omega | decide) (by first | omega | decide) _ _ hw hS ls (lv_sub hl [4, 5, 6, 7, 3, 2, 1, 0] rfl)
  · skip
    have t64 : r2.toInt < r1.toInt := i_nle c3
    refine lv_aload_n X.1 X.2.1 dX9_preference_19 rfl (lv_at hl 1 rfl) ?_
    refine lv_iload_n X.1 X.2.1 dX9_preference_20 rfl (lv_at hl 3 rfl) ?_
    refine cVI [.int a2] [] X hw (c_X9_rs l G A M a2 (by omega)) (cwV 1 X.2.2.2.2 gX9_preference_X9_rs rfl rfl rfl (by decide +kernel) ⟨Nat.le_of_ble_eq_true rfl, Nat.le_of_ble_eq_true rfl⟩) (hw.recv (by decide) hm_MO rfl) rfl rfl hl.1 (Nat.le_of_ble_eq_true rfl) dX9_preference_21 ?_
    refine tni (fun r65 er65 => ?_)
    refine lv_goto (tgt := 29) X.1 X.2.1 dX9_preference_24 (by decide) ?_
    refine lv_istore (lv' := [(4, .int r65), (0, .ref (G.2.2 0)), (1, .int a1), (2, .int a2), (3, .int a3)]) X.1 X.2.1 dX9_preference_29 hl (by decide) rfl (fun ls hl => ?_)
    refine lv_lconst (v := 0) X.1 X.2.1 dX9_preference_31 (by decide) ?_
    refine lv_lstore (lv' := [(5, .long 0), (4, .int r65), (0, .ref (G.2.2 0)), (1, .int a1), (2, .int a2), (3, .int a3)]) X.1 X.2.1 dX9_preference_32 hl (by decide) rfl (fun ls hl => ?_)
    refine lv_iconst (v := 0) X.1 X.2.1 dX9_preference_34 (by decide) ?_
    refine lv_istore (lv' := [(7, .int 0), (5, .long 0), (4, .int r65), (0, .ref (G.2.2 0)), (1, .int a1), (2, .int a2), (3, .int a3)]) X.1 X.2.1 dX9_preference_35 hl (by decide) rfl (fun ls hl => ?_)
    refine lv_iconst (v := 0) X.1 X.2.1 dX9_preference_37 (by decide) ?_
    refine lv_istore (lv' := [(8, .int 0), (7, .int 0), (5, .long 0), (4, .int r65), (0, .ref (G.2.2 0)), (1, .int a1), (2, .int a2), (3, .int a3)]) X.1 X.2.1 dX9_preference_38 hl (by decide) rfl (fun ls hl => ?_)
    have L2 : ∀ (n2 : Nat) (v1 : Int32) (v2 : Int32) (v3 : Int32) (v4 : Int32) (v5 : Int64) (v7 : Int32) (v8 : Int32)  (hm2 : (16 - v8.toInt : Int).toNat < n2) (hi2_0 : 0 ≤ v8.toInt) (hi2_1 : 0 ≤ v1.toInt ∧ v1.toInt < 4) (hi2_2 : 0 ≤ v2.toInt ∧ v2.toInt < 8), ∀ (H : Heap) (locs : List Loc), WD false G A M s H → va_S A s.heap H locs → ∀ ls : Array Slot, lv_has ls 10 [(0, .ref (G.2.2 0)), (1, .int v1), (2, .int v2), (3, .int v3), (4, .int v4), (5, .long v5), (7, .int v7), (8, .int v8)] → W p l e ({ frames := 3, cells := 0, slots := 0, locals := 79 } : Room) s m ([.ref (G.2.2 0), .int a1, .int a2, .int a3] : List Value).toArray below meth c H locs 0 0 (TQv false G A below ([.ref (G.2.2 0), .int a1, .int a2, .int a3] : List Value).toArray s (f_X9_preference_40 n2 M v1 v2 v3 v4 v5 v7 v8)) (F0 m 40 ls []) := by
      intro n2
      induction n2 with
      | zero => intro v1 v2 v3 v4 v5 v7 v8 hm2 hi2_0 hi2_1 hi2_2; exact absurd hm2 (by omega)
      | succ n2 ih2 =>
        intro v1 v2 v3 v4 v5 v7 v8 hm2 hi2_0 hi2_1 hi2_2 H locs hw hS ls hl
        rw [f_X9_preference_40]
        refine lv_iload X.1 X.2.1 dX9_preference_40 (lv_at hl 7 rfl) ?_
        refine lv_aload_n X.1 X.2.1 dX9_preference_42 rfl (lv_at hl 0 rfl) ?_
        refine lv_iload_n X.1 X.2.1 dX9_preference_43 rfl (lv_at hl 1 rfl) ?_
        refine lv_iload_n X.1 X.2.1 dX9_preference_44 rfl (lv_at hl 2 rfl) ?_
        refine lv_iload_n X.1 X.2.1 dX9_preference_45 rfl (lv_at hl 3 rfl) ?_
        refine cVI [.int v1, .int v2, .int v3] [.int v8] X hw (c_X9_first l G A M v1 v2 v3 (by omega) (by omega)) (cwV 3 X.2.2.2.2 gX9_preference_X9_first rfl rfl rfl (by decide +kernel) ⟨Nat.le_of_ble_eq_true rfl, Nat.le_of_ble_eq_true rfl⟩) (hw.recv (by decide) hm_MO rfl) rfl rfl hl.1 (Nat.le_of_ble_eq_true rfl) dX9_preference_46 ?_
        refine tni (fun r66 er66 => ?_)
        have zr66 := g_X9_first hw.2.2.2.2 er66 (by omega) (by omega)
        refine bi_ge (tgt := 125) X dX9_preference_49 (by decide) (fun c67 => ?_) (fun c67 => ?_)
        · skip
          have t68 : r66.toInt ≤ v8.toInt := i_le c67
          refine lv_aload_n X.1 X.2.1 dX9_preference_125 rfl (lv_at hl 0 rfl) ?_
          refine lv_lload X.1 X.2.1 dX9_preference_126 (lv_at hl 5 rfl) ?_
          refine lv_iload X.1 X.2.1 dX9_preference_128 (lv_at hl 4 rfl) ?_
          refine bz_ne (tgt := 137) X dX9_preference_130 (by decide) (fun c69 => ?_) (fun c69 => ?_)
          · skip
            have t70 : ¬ v4.toInt = 0 := i_ne c69
            refine lv_iload X.1 X.2.1 dX9_preference_137 (lv_at hl 4 rfl) ?_
            refine lv_i2l (v := v4.toInt64) X.1 X.2.1 dX9_preference_139 rfl ?_
            refine cVW [.long v5, .long v4.toInt64] [] X hw hS (c_X9_make l G A M v5 v4.toInt64) (cwV 2 X.2.2.2.2 gX9_preference_X9_make rfl rfl rfl (by decide +kernel) ⟨Nat.le_of_ble_eq_true rfl, Nat.le_of_ble_eq_true rfl⟩) (hw.recv (by decide) hm_MO rfl) rfl rfl hl.1 (Nat.le_of_ble_eq_true rfl) dX9_preference_140 (fun H locs hw hS => ?_)
            refine tpb (fun M71 eM71 => ?_)
            rw [← eM71] at hw
            refine lv_aload_n X.1 X.2.1 dX9_preference_143 rfl (lv_at hl 0 rfl) ?_
            refine lv_aload_n X.1 X.2.1 dX9_preference_144 rfl (lv_at hl 0 rfl) ?_
            refine lv_iload_n X.1 X.2.1 dX9_preference_145 rfl (lv_at hl 2 rfl) ?_
            refine cVI [.int v2] [.ref (G.2.2 0)] X hw (c_X9_rs l G A M71 v2 (by omega)) (cwV 1 X.2.2.2.2 gX9_preference_X9_rs rfl rfl rfl (by decide +kernel) ⟨Nat.le_of_ble_eq_true rfl, Nat.le_of_ble_eq_true rfl⟩) (hw.recv (by decide) hm_MO rfl) rfl rfl hl.1 (Nat.le_of_ble_eq_true rfl) dX9_preference_146 ?_
            refine tni (fun r72 er72 => ?_)
            refine lv_i2l (v := r72.toInt64) X.1 X.2.1 dX9_preference_149 rfl ?_
            refine cVW [.long r72.toInt64] [] X hw hS (c_X9_over l G A M71 r72.toInt64) (cwV 1 X.2.2.2.2 gX9_preference_X9_over rfl rfl rfl (by decide +kernel) ⟨Nat.le_of_ble_eq_true rfl, Nat.le_of_ble_eq_true rfl⟩) (hw.recv (by decide) hm_MO rfl) rfl rfl hl.1 (Nat.le_of_ble_eq_true rfl) dX9_preference_150 (fun H locs hw hS => ?_)
            refine tpb (fun M73 eM73 => ?_)
            rw [← eM73] at hw
            exact rV X hr hlk hw hS dX9_preference_153
          · skip
            have t74 : v4.toInt = 0 := i_eq c69
            refine lv_lconst (v := 1) X.1 X.2.1 dX9_preference_133 (by decide) ?_
            refine lv_goto (tgt := 140) X.1 X.2.1 dX9_preference_134 (by decide) ?_
            refine cVW [.long v5, .long 1] [] X hw hS (c_X9_make l G A M v5 1) (cwV 2 X.2.2.2.2 gX9_preference_X9_make rfl rfl rfl (by decide +kernel) ⟨Nat.le_of_ble_eq_true rfl, Nat.le_of_ble_eq_true rfl⟩) (hw.recv (by decide) hm_MO rfl) rfl rfl hl.1 (Nat.le_of_ble_eq_true rfl) dX9_preference_140 (fun H locs hw hS => ?_)
            refine tpb (fun M75 eM75 => ?_)
            rw [← eM75] at hw
            refine lv_aload_n X.1 X.2.1 dX9_preference_143 rfl (lv_at hl 0 rfl) ?_
            refine lv_aload_n X.1 X.2.1 dX9_preference_144 rfl (lv_at hl 0 rfl) ?_
            refine lv_iload_n X.1 X.2.1 dX9_preference_145 rfl (lv_at hl 2 rfl) ?_
            refine cVI [.int v2] [.ref (G.2.2 0)] X hw (c_X9_rs l G A M75 v2 (by omega)) (cwV 1 X.2.2.2.2 gX9_preference_X9_rs rfl rfl rfl (by decide +kernel) ⟨Nat.le_of_ble_eq_true rfl, Nat.le_of_ble_eq_true rfl⟩) (hw.recv (by decide) hm_MO rfl) rfl rfl hl.1 (Nat.le_of_ble_eq_true rfl) dX9_preference_146 ?_
            refine tni (fun r76 er76 => ?_)
            refine lv_i2l (v := r76.toInt64) X.1 X.2.1 dX9_preference_149 rfl ?_
            refine cVW [.long r76.toInt64] [] X hw hS (c_X9_over l G A M75 r76.toInt64) (cwV 1 X.2.2.2.2 gX9_preference_X9_over rfl rfl rfl (by decide +kernel) ⟨Nat.le_of_ble_eq_true rfl, Nat.le_of_ble_eq_true rfl⟩) (hw.recv (by decide) hm_MO rfl) rfl rfl hl.1 (Nat.le_of_ble_eq_true rfl) dX9_preference_150 (fun H locs hw hS => ?_)
            refine tpb (fun M77 eM77 => ?_)
            rw [← eM77] at hw
            exact rV X hr hlk hw hS dX9_preference_153
        · skip
          have t78 : v8.toInt < r66.toInt := i_nle c67
          refine lv_aload_n X.1 X.2.1 dX9_preference_52 rfl (lv_at hl 0 rfl) ?_
          refine lv_iload_n X.1 X.2.1 dX9_preference_53 rfl (lv_at hl 2 rfl) ?_
          refine lv_aload_n X.1 X.2.1 dX9_preference_54 rfl (lv_at hl 0 rfl) ?_
          refine lv_iload_n X.1 X.2.1 dX9_preference_55 rfl (lv_at hl 1 rfl) ?_
          refine lv_iload_n X.1 X.2.1 dX9_preference_56 rfl (lv_at hl 2 rfl) ?_
          refine lv_iload X.1 X.2.1 dX9_preference_57 (lv_at hl 7 rfl) ?_
          refine cVI [.int v1, .int v2, .int v8] [.int v2, .ref (G.2.2 0)] X hw (c_X9_doc l G A M v1 v2 v8 (by omega) (by omega) (by omega)) (cwV 3 X.2.2.2.2 gX9_preference_X9_doc rfl rfl rfl (by decide +kernel) ⟨Nat.le_of_ble_eq_true rfl, Nat.le_of_ble_eq_true rfl⟩) (hw.recv (by decide) hm_MO rfl) rfl rfl hl.1 (Nat.le_of_ble_eq_true rfl) dX9_preference_59 ?_
          refine tni (fun r79 er79 => ?_)
          have zr79 := g_X9_doc hw.2.2.2.2 er79 (by omega) (by omega) (by omega)
          refine cVI [.int v2, .int r79] [] X hw (c_X9_gradeOf l G A M v2 r79 (by omega) (by omega)) (cwV 2 X.2.2.2.2 gX9_preference_X9_gradeOf rfl rfl rfl (by decide +kernel) ⟨Nat.le_of_ble_eq_true rfl, Nat.le_of_ble_eq_true rfl⟩) (hw.recv (by decide) hm_MO rfl) rfl rfl hl.1 (Nat.le_of_ble_eq_true rfl) dX9_preference_62 ?_
          refine tni (fun r80 er80 => ?_)
          refine lv_istore (lv' := [(9, .int r80), (0, .ref (G.2.2 0)), (1, .int v1), (2, .int v2), (3, .int v3), (4, .int v4), (5, .long v5), (7, .int v7), (8, .int v8)]) X.1 X.2.1 dX9_preference_65 hl (by decide) rfl (fun ls hl => ?_)
          refine lv_iload X.1 X.2.1 dX9_preference_67 (lv_at hl 0 rfl) ?_
          refine bz_le (tgt := 104) X dX9_preference_69 (by decide) (fun c81 => ?_) (fun c81 => ?_)
          · skip
            have t82 : r80.toInt ≤ 0 := i_le c81
            refine lv_iload X.1 X.2.1 dX9_preference_104 (lv_at hl 7 rfl) ?_
            refine lv_iload X.1 X.2.1 dX9_preference_106 (lv_at hl 0 rfl) ?_
            refine bz_ne (tgt := 115) X dX9_preference_108 (by decide) (fun c83 => ?_) (fun c83 => ?_)
            · skip
              have t84 : ¬ r80.toInt = 0 := i_ne c83
              refine lv_iconst (v := 0) X.1 X.2.1 dX9_preference_115 (by decide) ?_
              refine lv_iadd X.1 X.2.1 dX9_preference_116 ?_
              refine tni (fun x85 ex85 => ?_)
              refine lv_istore (lv' := [(7, .int x85), (9, .int r80), (0, .ref (G.2.2 0)), (1, .int v1), (2, .int v2), (3, .int v3), (4, .int v4), (5, .long v5), (8, .int v8)]) X.1 X.2.1 dX9_preference_117 hl (by decide) rfl (fun ls hl => ?_)
              refine lv_iinc (v := (v8 + 1)) (lv' := [(8, .int (v8 + 1)), (7, .int x85), (9, .int r80), (0, .ref (G.2.2 0)), (1, .int v1), (2, .int v2), (3, .int v3), (4, .int v4), (5, .long v5)]) X.1 X.2.1 dX9_preference_119 hl (k := 8) rfl rfl (by decide) rfl (fun ls hl => ?_)
              refine lv_goto (tgt := 40) X.1 X.2.1 dX9_preference_122 (by decide) ?_
              have q86 := inc_sp v8
              exact ih2 v1 v2 v3 v4 v5 x85 (v8 + 1) (by omega) (by omega) (by omega) (by omega) _ _ hw hS ls (lv_sub hl [3, 4, 5, 6, 7, 8, 1, 0] rfl)
            · skip
              have t87 : r80.toInt = 0 := i_eq c83
              refine lv_iconst (v := 1) X.1 X.2.1 dX9_preference_111 (by decide) ?_
              refine lv_goto (tgt := 116) X.1 X.2.1 dX9_preference_112 (by decide) ?_
              refine lv_iadd X.1 X.2.1 dX9_preference_116 ?_
              refine tni (fun x88 ex88 => ?_)
              have q89 := inc_sp v7
              rw [← ex88] at q89
              refine lv_istore (lv' := [(7, .int x88), (9, .int r80), (0, .ref (G.2.2 0)), (1, .int v1), (2, .int v2), (3, .int v3), (4, .int v4), (5, .long v5), (8, .int v8)]) X.1 X.2.1 dX9_preference_117 hl (by decide) rfl (fun ls hl => ?_)
              refine lv_iinc (v := (v8 + 1)) (lv' := [(8, .int (v8 + 1)), (7, .int x88), (9, .int r80), (0, .ref (G.2.2 0)), (1, .int v1), (2, .int v2), (3, .int v3), (4, .int v4), (5, .long v5)]) X.1 X.2.1 dX9_preference_119 hl (k := 8) rfl rfl (by decide) rfl (fun ls hl => ?_)
              refine lv_goto (tgt := 40) X.1 X.2.1 dX9_preference_122 (by decide) ?_
              have q90 := inc_sp v8
              exact ih2 v1 v2 v3 v4 v5 x88 (v8 + 1) (by omega) (by omega) (by omega) (by omega) _ _ hw hS ls (lv_sub hl [3, 4, 5, 6, 7, 8, 1, 0] rfl)
          · skip
            have t91 : 0 < r80.toInt := i_nle c81
            refine lv_lload X.1 X.2.1 dX9_preference_72 (lv_at hl 6 rfl) ?_
            refine lv_iload X.1 X.2.1 dX9_preference_74 (lv_at hl 5 rfl) ?_
            refine bz_ne (tgt := 83) X dX9_preference_76 (by decide) (fun c92 => ?_) (fun c92 => ?_)
            · skip
              have t93 : ¬ v4.toInt = 0 := i_ne c92
              refine lv_iload X.1 X.2.1 dX9_preference_83 (lv_at hl 5 rfl) ?_
              refine lv_iload X.1 X.2.1 dX9_preference_85 (lv_at hl 7 rfl) ?_
              refine lv_iload X.1 X.2.1 dX9_preference_87 (lv_at hl 5 rfl) ?_
              refine bi_ge (tgt := 97) X dX9_preference_89 (by decide) (fun c94 => ?_) (fun c94 => ?_)
              · skip
                have t95 : v4.toInt ≤ v7.toInt := i_le c94
                refine lv_iload X.1 X.2.1 dX9_preference_97 (lv_at hl 5 rfl) ?_
                refine lv_isub X.1 X.2.1 dX9_preference_99 ?_
                refine lv_i2l (v := (v4 - v4).toInt64) X.1 X.2.1 dX9_preference_100 rfl ?_
                refine lv_ladd X.1 X.2.1 dX9_preference_101 ?_
                refine tnl (fun w96 ew96 => ?_)
                refine lv_lstore (lv' := [(5, .long w96), (9, .int r80), (0, .ref (G.2.2 0)), (1, .int v1), (2, .int v2), (3, .int v3), (4, .int v4), (7, .int v7), (8, .int v8)]) X.1 X.2.1 dX9_preference_102 hl (by decide) rfl (fun ls hl => ?_)
                refine lv_iload X.1 X.2.1 dX9_preference_104 (lv_at hl 7 rfl) ?_
                refine lv_iload X.1 X.2.1 dX9_preference_106 (lv_at hl 1 rfl) ?_
                refine bz_ne (tgt := 115) X dX9_preference_108 (by decide) (fun c97 => ?_) (fun c97 => ?_)
                · skip
                  have t98 : ¬ r80.toInt = 0 := i_ne c97
                  refine lv_iconst (v := 0) X.1 X.2.1 dX9_preference_115 (by decide) ?_
                  refine lv_iadd X.1 X.2.1 dX9_preference_116 ?_
                  refine tni (fun x99 ex99 => ?_)
                  refine lv_istore (lv' := [(7, .int x99), (5, .long w96), (9, .int r80), (0, .ref (G.2.2 0)), (1, .int v1), (2, .int v2), (3, .int v3), (4, .int v4), (8, .int v8)]) X.1 X.2.1 dX9_preference_117 hl (by decide) rfl (fun ls hl => ?_)
                  refine lv_iinc (v := (v8 + 1)) (lv' := [(8, .int (v8 + 1)), (7, .int x99), (5, .long w96), (9, .int r80), (0, .ref (G.2.2 0)), (1, .int v1), (2, .int v2), (3, .int v3), (4, .int v4)]) X.1 X.2.1 dX9_preference_119 hl (k := 8) rfl rfl (by decide) rfl (fun ls hl => ?_)
                  refine lv_goto (tgt := 40) X.1 X.2.1 dX9_preference_122 (by decide) ?_
                  have q100 := inc_sp v8
                  exact ih2 v1 v2 v3 v4 w96 x99 (v8 + 1) (by omega) (by omega) (by omega) (by omega) _ _ hw hS ls (lv_sub hl [4, 5, 6, 7, 8, 2, 1, 0] rfl)
                · skip
                  have t101 : r80.toInt = 0 := i_eq c97
                  refine lv_iconst (v := 1) X.1 X.2.1 dX9_preference_111 (by decide) ?_
                  refine lv_goto (tgt := 116) X.1 X.2.1 dX9_preference_112 (by decide) ?_
                  refine lv_iadd X.1 X.2.1 dX9_preference_116 ?_
                  refine tni (fun x102 ex102 => ?_)
                  have q103 := inc_sp v7
                  rw [← ex102] at q103
                  refine lv_istore (lv' := [(7, .int x102), (5, .long w96), (9, .int r80), (0, .ref (G.2.2 0)), (1, .int v1), (2, .int v2), (3, .int v3), (4, .int v4), (8, .int v8)]) X.1 X.2.1 dX9_preference_117 hl (by decide) rfl (fun ls hl => ?_)
                  refine lv_iinc (v := (v8 + 1)) (lv' := [(8, .int (v8 + 1)), (7, .int x102), (5, .long w96), (9, .int r80), (0, .ref (G.2.2 0)), (1, .int v1), (2, .int v2), (3, .int v3), (4, .int v4)]) X.1 X.2.1 dX9_preference_119 hl (k := 8) rfl rfl (by decide) rfl (fun ls hl => ?_)
                  refine lv_goto (tgt := 40) X.1 X.2.1 dX9_preference_122 (by decide) ?_
                  have q104 := inc_sp v8
                  exact ih2 v1 v2 v3 v4 w96 x102 (v8 + 1) (by omega) (by omega) (by omega) (by omega) _ _ hw hS ls (lv_sub hl [4, 5, 6, 7, 8, 2, 1, 0] rfl)
              · skip
                have t105 : v7.toInt < v4.toInt := i_nle c94
                refine lv_iload X.1 X.2.1 dX9_preference_92 (lv_at hl 7 rfl) ?_
                refine lv_goto (tgt := 99) X.1 X.2.1 dX9_preference_94 (by decide) ?_
                refine lv_isub X.1 X.2.1 dX9_preference_99 ?_
                refine lv_i2l (v := (v4 - v7).toInt64) X.1 X.2.1 dX9_preference_100 rfl ?_
                refine lv_ladd X.1 X.2.1 dX9_preference_101 ?_
                refine tnl (fun w106 ew106 => ?_)
                refine lv_lstore (lv' := [(5, .long w106), (9, .int r80), (0, .ref (G.2.2 0)), (1, .int v1), (2, .int v2), (3, .int v3), (4, .int v4), (7, .int v7), (8, .int v8)]) X.1 X.2.1 dX9_preference_102 hl (by decide) rfl (fun ls hl => ?_)
                refine lv_iload X.1 X.2.1 dX9_preference_104 (lv_at hl 7 rfl) ?_
                refine lv_iload X.1 X.2.1 dX9_preference_106 (lv_at hl 1 rfl) ?_
                refine bz_ne (tgt := 115) X dX9_preference_108 (by decide) (fun c107 => ?_) (fun c107 => ?_)
                · skip
                  have t108 : ¬ r80.toInt = 0 := i_ne c107
                  refine lv_iconst (v := 0) X.1 X.2.1 dX9_preference_115 (by decide) ?_
                  refine lv_iadd X.1 X.2.1 dX9_preference_116 ?_
                  refine tni (fun x109 ex109 => ?_)
                  refine lv_istore (lv' := [(7, .int x109), (5, .long w106), (9, .int r80), (0, .ref (G.2.2 0)), (1, .int v1), (2, .int v2), (3, .int v3), (4, .int v4), (8, .int v8)]) X.1 X.2.1 dX9_preference_117 hl (by decide) rfl (fun ls hl => ?_)
                  refine lv_iinc (v := (v8 + 1)) (lv' := [(8, .int (v8 + 1)), (7, .int x109), (5, .long w106), (9, .int r80), (0, .ref (G.2.2 0)), (1, .int v1), (2, .int v2), (3, .int v3), (4, .int v4)]) X.1 X.2.1 dX9_preference_119 hl (k := 8) rfl rfl (by decide) rfl (fun ls hl => ?_)
                  refine lv_goto (tgt := 40) X.1 X.2.1 dX9_preference_122 (by decide) ?_
                  have q110 := inc_sp v8
                  exact ih2 v1 v2 v3 v4 w106 x109 (v8 + 1) (by omega) (by omega) (by omega) (by omega) _ _ hw hS ls (lv_sub hl [4, 5, 6, 7, 8, 2, 1, 0] rfl)
                · skip
                  have t111 : r80.toInt = 0 := i_eq c107
                  refine lv_iconst (v := 1) X.1 X.2.1 dX9_preference_111 (by decide) ?_
                  refine lv_goto (tgt := 116) X.1 X.2.1 dX9_preference_112 (by decide) ?_
                  refine lv_iadd X.1 X.2.1 dX9_preference_116 ?_
                  refine tni (fun x112 ex112 => ?_)
                  have q113 := inc_sp v7
                  rw [← ex112] at q113
                  refine lv_istore (lv' := [(7, .int x112), (5, .long w106), (9, .int r80), (0, .ref (G.2.2 0)), (1, .int v1), (2, .int v2), (3, .int v3), (4, .int v4), (8, .int v8)]) X.1 X.2.1 dX9_preference_117 hl (by decide) rfl (fun ls hl => ?_)
                  refine lv_iinc (v := (v8 + 1)) (lv' := [(8, .int (v8 + 1)), (7, .int x112), (5, .long w106), (9, .int r80), (0, .ref (G.2.2 0)), (1, .int v1), (2, .int v2), (3, .int v3), (4, .int v4)]) X.1 X.2.1 dX9_preference_119 hl (k := 8) rfl rfl (by decide) rfl (fun ls hl => ?_)
                  refine lv_goto (tgt := 40) X.1 X.2.1 dX9_preference_122 (by decide) ?_
                  have q114 := inc_sp v8
                  exact ih2 v1 v2 v3 v4 w106 x112 (v8 + 1) (by omega) (by omega) (by omega) (by omega) _ _ hw hS ls (lv_sub hl [4, 5, 6, 7, 8, 2, 1, 0] rfl)
            · skip
              have t115 : v4.toInt = 0 := i_eq c92
              refine lv_lconst (v := 1) X.1 X.2.1 dX9_preference_79 (by decide) ?_
              refine lv_goto (tgt := 101) X.1 X.2.1 dX9_preference_80 (by decide) ?_
              refine lv_ladd X.1 X.2.1 dX9_preference_101 ?_
              refine tnl (fun w116 ew116 => ?_)
              refine lv_lstore (lv' := [(5, .long w116), (9, .int r80), (0, .ref (G.2.2 0)), (1, .int v1), (2, .int v2), (3, .int v3), (4, .int v4), (7, .int v7), (8, .int v8)]) X.1 X.2.1 dX9_preference_102 hl (by decide) rfl (fun ls hl => ?_)
              refine lv_iload X.1 X.2.1 dX9_preference_104 (lv_at hl 7 rfl) ?_
              refine lv_iload X.1 X.2.1 dX9_preference_106 (lv_at hl 1 rfl) ?_
              refine bz_ne (tgt := 115) X dX9_preference_108 (by decide) (fun c117 => ?_) (fun c117 => ?_)
              · skip
                have t118 : ¬ r80.toInt = 0 := i_ne c117
                refine lv_iconst (v := 0) X.1 X.2.1 dX9_preference_115 (by decide) ?_
                refine lv_iadd X.1 X.2.1 dX9_preference_116 ?_
                refine tni (fun x119 ex119 => ?_)
                refine lv_istore (lv' := [(7, .int x119), (5, .long w116), (9, .int r80), (0, .ref (G.2.2 0)), (1, .int v1), (2, .int v2), (3, .int v3), (4, .int v4), (8, .int v8)]) X.1 X.2.1 dX9_preference_117 hl (by decide) rfl (fun ls hl => ?_)
                refine lv_iinc (v := (v8 + 1)) (lv' := [(8, .int (v8 + 1)), (7, .int x119), (5, .long w116), (9, .int r80), (0, .ref (G.2.2 0)), (1, .int v1), (2, .int v2), (3, .int v3), (4, .int v4)]) X.1 X.2.1 dX9_preference_119 hl (k := 8) rfl rfl (by decide) rfl (fun ls hl => ?_)
                refine lv_goto (tgt := 40) X.1 X.2.1 dX9_preference_122 (by decide) ?_
                have q120 := inc_sp v8
                exact ih2 v1 v2 v3 v4 w116 x119 (v8 + 1) (by omega) (by omega) (by omega) (by omega) _ _ hw hS ls (lv_sub hl [4, 5, 6, 7, 8, 2, 1, 0] rfl)
              · skip
                have t121 : r80.toInt = 0 := i_eq c117
                refine lv_iconst (v := 1) X.1 X.2.1 dX9_preference_111 (by decide) ?_
                refine lv_goto (tgt := 116) X.1 X.2.1 dX9_preference_112 (by decide) ?_
                refine lv_iadd X.1 X.2.1 dX9_preference_116 ?_
                refine tni (fun x122 ex122 => ?_)
                have q123 := inc_sp v7
                rw [← ex122] at q123
                refine lv_istore (lv' := [(7, .int x122), (5, .long w116), (9, .int r80), (0, .ref (G.2.2 0)), (1, .int v1), (2, .int v2), (3, .int v3), (4, .int v4), (8, .int v8)]) X.1 X.2.1 dX9_preference_117 hl (by decide) rfl (fun ls hl => ?_)
                refine lv_iinc (v := (v8 + 1)) (lv' := [(8, .int (v8 + 1)), (7, .int x122), (5, .long w116), (9, .int r80), (0, .ref (G.2.2 0)), (1, .int v1), (2, .int v2), (3, .int v3), (4, .int v4)]) X.1 X.2.1 dX9_preference_119 hl (k := 8) rfl rfl (by decide) rfl (fun ls hl => ?_)
                refine lv_goto (tgt := 40) X.1 X.2.1 dX9_preference_122 (by decide) ?_
                have q124 := inc_sp v8
                exact ih2 v1 v2 v3 v4 w116 x122 (v8 + 1) (by omega) (by omega) (by omega) (by omega) _ _ hw hS ls (lv_sub hl [4, 5, 6, 7, 8, 2, 1, 0] rfl)
    exact L2 17 a1 a2 a3 r65 0 0 0 (by decide) (by first | omega | decide) (by first | omega | decide) (by first | omega | decide) _ _ hw hS ls (lv_sub hl [4, 5, 6, 7, 3, 2, 1, 0] rfl)

def f_X9_reckon (M : Mem) (a1 : Int32) (a2 : Int32) (a3 : Int32) (a4 : Int32) : Mem := if a3 = 0 then (bnd (f_X9_goods M a1 a2 a4) (fun r2 => bnd (f_X9_make M r2.toInt64 a4.toInt64) (fun M3 => M3))) else (if a3 = 1 then (bnd (f_X9_goods M a1 a2 a4) (fun r5 => bnd (f_X9_rs M a2) (fun r6 => bnd (f_X9_make M r5.toInt64 r6.toInt64) (fun M7 => M7)))) else (if a3 = 2 then (bnd (f_X9_average M a1 a2 a4) (fun M9 => M9)) else (if a3 = 3 then (bnd (f_X9_firstGood M a1 a2 a4) (fun M11 => M11)) else (if a3 = 4 then (bnd (f_X9_gained M a1 a2 a4) (fun M13 => M13)) else (if a3 = 5 then (bnd (f_X9_share M a1 a2 a4) (fun M15 => M15)) else (if a3 = 6 then (bnd (f_X9_preference M a1 a2 a4) (fun M17 => M17)) else (if a3 = 7 then (bnd (f_X9_unjudged M a1 a2 a4) (fun r19 => bnd (f_X9_make M r19.toInt64 1) (fun M20 => M20))) else (bnd (f_X9_goods M a1 a2 a4) (fun r21 => bnd (f_X9_first M a1 a2 a4) (fun r22 => bnd (f_X9_unjudged M a1 a2 a4) (fun r23 => bnd (f_X9_make M r21.toInt64 ((r22 - r23).toInt64)) (fun M24 => M24))))))))))))
set_option maxRecDepth 100000 in
set_option maxHeartbeats 4000000 in
theorem c_X9_reckon (l : Launch) (G : En) (A : Nat → Prop) (M : Mem) (a1 : Int32) (a2 : Int32) (a3 : Int32) (a4 : Int32) (hra : 0 ≤ a1.toInt ∧ a1.toInt < 4) (hqa : 0 ≤ a2.toInt ∧ a2.toInt < 8) (hk : 1 ≤ a4.toInt ∧ a4.toInt ≤ 16) : WrV false l yX9_reckon wsX9_reckon ({ frames := 5, cells := 0, slots := 0, locals := 138 }) G A M [.ref (G.2.2 0), .int a1, .int a2, .int a3, .int a4] (f_X9_reckon M a1 a2 a3 a4) := by
  refine WrV.of (cc := cX9_reckon) (maxL := 5) (ret := none) (own := RX9) (by decide) rfl rfl (Nat.le_of_ble_eq_true rfl) ?_
  intro p e s m below meth c X hw hr hlk ls hl hS
  have hl : lv_has ls 5 [(0, .ref (G.2.2 0)), (1, .int a1), (2, .int a2), (3, .int a3), (4, .int a4)] := hl
  unfold f_X9_reckon
  refine lv_iload_n X.1 X.2.1 dX9_reckon_0 rfl (lv_at hl 3 rfl) ?_
  by_cases c1 : a3 = 0
  · refine tpp c1 ?_
    refine lv_tableIn (tgt := 48) X.1 X.2.1 dX9_reckon_1 (by rw [c1]; decide) (by rw [c1]; decide) (off := 47) (by rw [c1]; decide) (by decide) ?_
    refine lv_aload_n X.1 X.2.1 dX9_reckon_48 rfl (lv_at hl 0 rfl) ?_
    refine lv_aload_n X.1 X.2.1 dX9_reckon_49 rfl (lv_at hl 0 rfl) ?_
    refine lv_iload_n X.1 X.2.1 dX9_reckon_50 rfl (lv_at hl 1 rfl) ?_
    refine lv_iload_n X.1 X.2.1 dX9_reckon_51 rfl (lv_at hl 2 rfl) ?_
    refine lv_iload X.1 X.2.1 dX9_reckon_52 (lv_at hl 4 rfl) ?_
    refine cVI [.int a1, .int a2, .int a4] [.ref (G.2.2 0)] X hw (c_X9_goods l G A M a1 a2 a4 (by omega) (by omega)) (cwV 3 X.2.2.2.2 gX9_reckon_X9_goods rfl rfl rfl (by decide +kernel) ⟨Nat.le_of_ble_eq_true rfl, Nat.le_of_ble_eq_true rfl⟩) (hw.recv (by decide) hm_MO rfl) rfl rfl hl.1 (Nat.le_of_ble_eq_true rfl) dX9_reckon_54 ?_
    refine tni (fun r2 er2 => ?_)
    refine lv_i2l (v := r2.toInt64) X.1 X.2.1 dX9_reckon_57 rfl ?_
    refine lv_iload X.1 X.2.1 dX9_reckon_58 (lv_at hl 4 rfl) ?_
    refine lv_i2l (v := a4.toInt64) X.1 X.2.1 dX9_reckon_60 rfl ?_
    refine cVW [.long r2.toInt64, .long a4.toInt64] [] X hw hS (c_X9_make l G A M r2.toInt64 a4.toInt64) (cwV 2 X.2.2.2.2 gX9_reckon_X9_make rfl rfl rfl (by decide +kernel) ⟨Nat.le_of_ble_eq_true rfl, Nat.le_of_ble_eq_true rfl⟩) (hw.recv (by decide) hm_MO rfl) rfl rfl hl.1 (Nat.le_of_ble_eq_true rfl) dX9_reckon_61 (fun H locs hw hS => ?_)
    refine tpb (fun M3 eM3 => ?_)
    rw [← eM3] at hw
    refine lv_goto (tgt := 192) X.1 X.2.1 dX9_reckon_64 (by decide) ?_
    exact rV X hr hlk hw hS dX9_reckon_192
  refine tpn c1 ?_
  by_cases c4 : a3 = 1
  · refine tpp c4 ?_
    refine lv_tableIn (tgt := 67) X.1 X.2.1 dX9_reckon_1 (by rw [c4]; decide) (by rw [c4]; decide) (off := 66) (by rw [c4]; decide) (by decide) ?_
    refine lv_aload_n X.1 X.2.1 dX9_reckon_67 rfl (lv_at hl 0 rfl) ?_
    refine lv_aload_n X.1 X.2.1 dX9_reckon_68 rfl (lv_at hl 0 rfl) ?_
    refine lv_iload_n X.1 X.2.1 dX9_reckon_69 rfl (lv_at hl 1 rfl) ?_
    refine lv_iload_n X.1 X.2.1 dX9_reckon_70 rfl (lv_at hl 2 rfl) ?_
    refine lv_iload X.1 X.2.1 dX9_reckon_71 (lv_at hl 4 rfl) ?_
    refine cVI [.int a1, .int a2, .int a4] [.ref (G.2.2 0)] X hw (c_X9_goods l G A M a1 a2 a4 (by omega) (by omega)) (cwV 3 X.2.2.2.2 gX9_reckon_X9_goods rfl rfl rfl (by decide +kernel) ⟨Nat.le_of_ble_eq_true rfl, Nat.le_of_ble_eq_true rfl⟩) (hw.recv (by decide) hm_MO rfl) rfl rfl hl.1 (Nat.le_of_ble_eq_true rfl) dX9_reckon_73 ?_
    refine tni (fun r5 er5 => ?_)
    refine lv_i2l (v := r5.toInt64) X.1 X.2.1 dX9_reckon_76 rfl ?_
    refine lv_aload_n X.1 X.2.1 dX9_reckon_77 rfl (lv_at hl 0 rfl) ?_
    refine lv_iload_n X.1 X.2.1 dX9_reckon_78 rfl (lv_at hl 2 rfl) ?_
    refine cVI [.int a2] [.long r5.toInt64, .ref (G.2.2 0)] X hw (c_X9_rs l G A M a2 (by omega)) (cwV 1 X.2.2.2.2 gX9_reckon_X9_rs rfl rfl rfl (by decide +kernel) ⟨Nat.le_of_ble_eq_true rfl, Nat.le_of_ble_eq_true rfl⟩) (hw.recv (by decide) hm_MO rfl) rfl rfl hl.1 (Nat.le_of_ble_eq_true rfl) dX9_reckon_79 ?_
    refine tni (fun r6 er6 => ?_)
    refine lv_i2l (v := r6.toInt64) X.1 X.2.1 dX9_reckon_82 rfl ?_
    refine cVW [.long r5.toInt64, .long r6.toInt64] [] X hw hS (c_X9_make l G A M r5.toInt64 r6.toInt64) (cwV 2 X.2.2.2.2 gX9_reckon_X9_make rfl rfl rfl (by decide +kernel) ⟨Nat.le_of_ble_eq_true rfl, Nat.le_of_ble_eq_true rfl⟩) (hw.recv (by decide) hm_MO rfl) rfl rfl hl.1 (Nat.le_of_ble_eq_true rfl) dX9_reckon_83 (fun H locs hw hS => ?_)
    refine tpb (fun M7 eM7 => ?_)
    rw [← eM7] at hw
    refine lv_goto (tgt := 192) X.1 X.2.1 dX9_reckon_86 (by decide) ?_
    exact rV X hr hlk hw hS dX9_reckon_192
  refine tpn c4 ?_
  by_cases c8 : a3 = 2
  · refine tpp c8 ?_
    refine lv_tableIn (tgt := 89) X.1 X.2.1 dX9_reckon_1 (by rw [c8]; decide) (by rw [c8]; decide) (off := 88) (by rw [c8]; decide) (by decide) ?_
    refine lv_aload_n X.1 X.2.1 dX9_reckon_89 rfl (lv_at hl 0 rfl) ?_
    refine lv_iload_n X.1 X.2.1 dX9_reckon_90 rfl (lv_at hl 1 rfl) ?_
    refine lv_iload_n X.1 X.2.1 dX9_reckon_91 rfl (lv_at hl 2 rfl) ?_
    refine lv_iload X.1 X.2.1 dX9_reckon_92 (lv_at hl 4 rfl) ?_
    refine cVW [.int a1, .int a2, .int a4] [] X hw hS (c_X9_average l G A M a1 a2 a4 (by omega) (by omega)) (cwV 3 X.2.2.2.2 gX9_reckon_X9_average rfl rfl rfl (by decide +kernel) ⟨Nat.le_of_ble_eq_true rfl, Nat.le_of_ble_eq_true rfl⟩) (hw.recv (by decide) hm_MO rfl) rfl rfl hl.1 (Nat.le_of_ble_eq_true rfl) dX9_reckon_94 (fun H locs hw hS => ?_)
    refine tpb (fun M9 eM9 => ?_)
    rw [← eM9] at hw
    refine lv_goto (tgt := 192) X.1 X.2.1 dX9_reckon_97 (by decide) ?_
    exact rV X hr hlk hw hS dX9_reckon_192
  refine tpn c8 ?_
  by_cases c10 : a3 = 3
  · refine tpp c10 ?_
    refine lv_tableIn (tgt := 100) X.1 X.2.1 dX9_reckon_1 (by rw [c10]; decide) (by rw [c10]; decide) (off := 99) (by rw [c10]; decide) (by decide) ?_
    refine lv_aload_n X.1 X.2.1 dX9_reckon_100 rfl (lv_at hl 0 rfl) ?_
    refine lv_iload_n X.1 X.2.1 dX9_reckon_101 rfl (lv_at hl 1 rfl) ?_
    refine lv_iload_n X.1 X.2.1 dX9_reckon_102 rfl (lv_at hl 2 rfl) ?_
    refine lv_iload X.1 X.2.1 dX9_reckon_103 (lv_at hl 4 rfl) ?_
    refine cVW [.int a1, .int a2, .int a4] [] X hw hS (c_X9_firstGood l G A M a1 a2 a4 (by omega) (by omega) (by omega)) (cwV 3 X.2.2.2.2 gX9_reckon_X9_firstGood rfl rfl rfl (by decide +kernel) ⟨Nat.le_of_ble_eq_true rfl, Nat.le_of_ble_eq_true rfl⟩) (hw.recv (by decide) hm_MO rfl) rfl rfl hl.1 (Nat.le_of_ble_eq_true rfl) dX9_reckon_105 (fun H locs hw hS => ?_)
    refine tpb (fun M11 eM11 => ?_)
    rw [← eM11] at hw
    refine lv_goto (tgt := 192) X.1 X.2.1 dX9_reckon_108 (by decide) ?_
    exact rV X hr hlk hw hS dX9_reckon_192
  refine tpn c10 ?_
  by_cases c12 : a3 = 4
  · refine tpp c12 ?_
    refine lv_tableIn (tgt := 111) X.1 X.2.1 dX9_reckon_1 (by rw [c12]; decide) (by rw [c12]; decide) (off := 110) (by rw [c12]; decide) (by decide) ?_
    refine lv_aload_n X.1 X.2.1 dX9_reckon_111 rfl (lv_at hl 0 rfl) ?_
    refine lv_iload_n X.1 X.2.1 dX9_reckon_112 rfl (lv_at hl 1 rfl) ?_
    refine lv_iload_n X.1 X.2.1 dX9_reckon_113 rfl (lv_at hl 2 rfl) ?_
    refine lv_iload X.1 X.2.1 dX9_reckon_114 (lv_at hl 4 rfl) ?_
    refine cVW [.int a1, .int a2, .int a4] [] X hw hS (c_X9_gained l G A M a1 a2 a4 (by omega) (by omega)) (cwV 3 X.2.2.2.2 gX9_reckon_X9_gained rfl rfl rfl (by decide +kernel) ⟨Nat.le_of_ble_eq_true rfl, Nat.le_of_ble_eq_true rfl⟩) (hw.recv (by decide) hm_MO rfl) rfl rfl hl.1 (Nat.le_of_ble_eq_true rfl) dX9_reckon_116 (fun H locs hw hS => ?_)
    refine tpb (fun M13 eM13 => ?_)
    rw [← eM13] at hw
    refine lv_goto (tgt := 192) X.1 X.2.1 dX9_reckon_119 (by decide) ?_
    exact rV X hr hlk hw hS dX9_reckon_192
  refine tpn c12 ?_
  by_cases c14 : a3 = 5
  · refine tpp c14 ?_
    refine lv_tableIn (tgt := 122) X.1 X.2.1 dX9_reckon_1 (by rw [c14]; decide) (by rw [c14]; decide) (off := 121) (by rw [c14]; decide) (by decide) ?_
    refine lv_aload_n X.1 X.2.1 dX9_reckon_122 rfl (lv_at hl 0 rfl) ?_
    refine lv_iload_n X.1 X.2.1 dX9_reckon_123 rfl (lv_at hl 1 rfl) ?_
    refine lv_iload_n X.1 X.2.1 dX9_reckon_124 rfl (lv_at hl 2 rfl) ?_
    refine lv_iload X.1 X.2.1 dX9_reckon_125 (lv_at hl 4 rfl) ?_
    refine cVW [.int a1, .int a2, .int a4] [] X hw hS (c_X9_share l G A M a1 a2 a4 (by omega) (by omega) (by omega)) (cwV 3 X.2.2.2.2 gX9_reckon_X9_share rfl rfl rfl (by decide +kernel) ⟨Nat.le_of_ble_eq_true rfl, Nat.le_of_ble_eq_true rfl⟩) (hw.recv (by decide) hm_MO rfl) rfl rfl hl.1 (Nat.le_of_ble_eq_true rfl) dX9_reckon_127 (fun H locs hw hS => ?_)
    refine tpb (fun M15 eM15 => ?_)
    rw [← eM15] at hw
    refine lv_goto (tgt := 192) X.1 X.2.1 dX9_reckon_130 (by decide) ?_
    exact rV X hr hlk hw hS dX9_reckon_192
  refine tpn c14 ?_
  by_cases c16 : a3 = 6
  · refine tpp c16 ?_
    refine lv_tableIn (tgt := 133) X.1 X.2.1 dX9_reckon_1 (by rw [c16]; decide) (by rw [c16]; decide) (off := 132) (by rw [c16]; decide) (by decide) ?_
    refine lv_aload_n X.1 X.2.1 dX9_reckon_133 rfl (lv_at hl 0 rfl) ?_
    refine lv_iload_n X.1 X.2.1 dX9_reckon_134 rfl (lv_at hl 1 rfl) ?_
    refine lv_iload_n X.1 X.2.1 dX9_reckon_135 rfl (lv_at hl 2 rfl) ?_
    refine lv_iload X.1 X.2.1 dX9_reckon_136 (lv_at hl 4 rfl) ?_
    refine cVW [.int a1, .int a2, .int a4] [] X hw hS (c_X9_preference l G A M a1 a2 a4 (by omega) (by omega)) (cwV 3 X.2.2.2.2 gX9_reckon_X9_preference rfl rfl rfl (by decide +kernel) ⟨Nat.le_of_ble_eq_true rfl, Nat.le_of_ble_eq_true rfl⟩) (hw.recv (by decide) hm_MO rfl) rfl rfl hl.1 (Nat.le_of_ble_eq_true rfl) dX9_reckon_138 (fun H locs hw hS => ?_)
    refine tpb (fun M17 eM17 => ?_)
    rw [← eM17] at hw
    refine lv_goto (tgt := 192) X.1 X.2.1 dX9_reckon_141 (by decide) ?_
    exact rV X hr hlk hw hS dX9_reckon_192
  refine tpn c16 ?_
  by_cases c18 : a3 = 7
  · refine tpp c18 ?_
    refine lv_tableIn (tgt := 144) X.1 X.2.1 dX9_reckon_1 (by rw [c18]; decide) (by rw [c18]; decide) (off := 143) (by rw [c18]; decide) (by decide) ?_
    refine lv_aload_n X.1 X.2.1 dX9_reckon_144 rfl (lv_at hl 0 rfl) ?_
    refine lv_aload_n X.1 X.2.1 dX9_reckon_145 rfl (lv_at hl 0 rfl) ?_
    refine lv_iload_n X.1 X.2.1 dX9_reckon_146 rfl (lv_at hl 1 rfl) ?_
    refine lv_iload_n X.1 X.2.1 dX9_reckon_147 rfl (lv_at hl 2 rfl) ?_
    refine lv_iload X.1 X.2.1 dX9_reckon_148 (lv_at hl 4 rfl) ?_
    refine cVI [.int a1, .int a2, .int a4] [.ref (G.2.2 0)] X hw (c_X9_unjudged l G A M a1 a2 a4 (by omega) (by omega)) (cwV 3 X.2.2.2.2 gX9_reckon_X9_unjudged rfl rfl rfl (by decide +kernel) ⟨Nat.le_of_ble_eq_true rfl, Nat.le_of_ble_eq_true rfl⟩) (hw.recv (by decide) hm_MO rfl) rfl rfl hl.1 (Nat.le_of_ble_eq_true rfl) dX9_reckon_150 ?_
    refine tni (fun r19 er19 => ?_)
    refine lv_i2l (v := r19.toInt64) X.1 X.2.1 dX9_reckon_153 rfl ?_
    refine lv_lconst (v := 1) X.1 X.2.1 dX9_reckon_154 (by decide) ?_
    refine cVW [.long r19.toInt64, .long 1] [] X hw hS (c_X9_make l G A M r19.toInt64 1) (cwV 2 X.2.2.2.2 gX9_reckon_X9_make rfl rfl rfl (by decide +kernel) ⟨Nat.le_of_ble_eq_true rfl, Nat.le_of_ble_eq_true rfl⟩) (hw.recv (by decide) hm_MO rfl) rfl rfl hl.1 (Nat.le_of_ble_eq_true rfl) dX9_reckon_155 (fun H locs hw hS => ?_)
    refine tpb (fun M20 eM20 => ?_)
    rw [← eM20] at hw
    refine lv_goto (tgt := 192) X.1 X.2.1 dX9_reckon_158 (by decide) ?_
    exact rV X hr hlk hw hS dX9_reckon_192
  refine tpn c18 ?_
  refine lv_tableOut (tgt := 161) X.1 X.2.1 dX9_reckon_1 (by have z0 := i_ne c1; have z0 : ¬ a3.toInt = 0 := z0; have z1 := i_ne c4; have z1 : ¬ a3.toInt = 1 := z1; have z2 := i_ne c8; have z2 : ¬ a3.toInt = 2 := z2; have z3 := i_ne c10; have z3 : ¬ a3.toInt = 3 := z3; have z4 := i_ne c12; have z4 : ¬ a3.toInt = 4 := z4; have z5 := i_ne c14; have z5 : ¬ a3.toInt = 5 := z5; have z6 := i_ne c16; have z6 : ¬ a3.toInt = 6 := z6; have z7 := i_ne c18; have z7 : ¬ a3.toInt = 7 := z7; omega) (by decide) ?_
  refine lv_aload_n X.1 X.2.1 dX9_reckon_161 rfl (lv_at hl 0 rfl) ?_
  refine lv_aload_n X.1 X.2.1 dX9_reckon_162 rfl (lv_at hl 0 rfl) ?_
  refine lv_iload_n X.1 X.2.1 dX9_reckon_163 rfl (lv_at hl 1 rfl) ?_
  refine lv_iload_n X.1 X.2.1 dX9_reckon_164 rfl (lv_at hl 2 rfl) ?_
  refine lv_iload X.1 X.2.1 dX9_reckon_165 (lv_at hl 4 rfl) ?_
  refine cVI [.int a1, .int a2, .int a4] [.ref (G.2.2 0)] X hw (c_X9_goods l G A M a1 a2 a4 (by omega) (by omega)) (cwV 3 X.2.2.2.2 gX9_reckon_X9_goods rfl rfl rfl (by decide +kernel) ⟨Nat.le_of_ble_eq_true rfl, Nat.le_of_ble_eq_true rfl⟩) (hw.recv (by decide) hm_MO rfl) rfl rfl hl.1 (Nat.le_of_ble_eq_true rfl) dX9_reckon_167 ?_
  refine tni (fun r21 er21 => ?_)
  refine lv_i2l (v := r21.toInt64) X.1 X.2.1 dX9_reckon_170 rfl ?_
  refine lv_aload_n X.1 X.2.1 dX9_reckon_171 rfl (lv_at hl 0 rfl) ?_
  refine lv_iload_n X.1 X.2.1 dX9_reckon_172 rfl (lv_at hl 1 rfl) ?_
  refine lv_iload_n X.1 X.2.1 dX9_reckon_173 rfl (lv_at hl 2 rfl) ?_
  refine lv_iload X.1 X.2.1 dX9_reckon_174 (lv_at hl 4 rfl) ?_
  refine cVI [.int a1, .int a2, .int a4] [.long r21.toInt64, .ref (G.2.2 0)] X hw (c_X9_first l G A M a1 a2 a4 (by omega) (by omega)) (cwV 3 X.2.2.2.2 gX9_reckon_X9_first rfl rfl rfl (by decide +kernel) ⟨Nat.le_of_ble_eq_true rfl, Nat.le_of_ble_eq_true rfl⟩) (hw.recv (by decide) hm_MO rfl) rfl rfl hl.1 (Nat.le_of_ble_eq_true rfl) dX9_reckon_176 ?_
  refine tni (fun r22 er22 => ?_)
  have zr22 := g_X9_first hw.2.2.2.2 er22 (by omega) (by omega)
  refine lv_aload_n X.1 X.2.1 dX9_reckon_179 rfl (lv_at hl 0 rfl) ?_
  refine lv_iload_n X.1 X.2.1 dX9_reckon_180 rfl (lv_at hl 1 rfl) ?_
  refine lv_iload_n X.1 X.2.1 dX9_reckon_181 rfl (lv_at hl 2 rfl) ?_
  refine lv_iload X.1 X.2.1 dX9_reckon_182 (lv_at hl 4 rfl) ?_
  refine cVI [.int a1, .int a2, .int a4] [.int r22, .long r21.toInt64, .ref (G.2.2 0)] X hw (c_X9_unjudged l G A M a1 a2 a4 (by omega) (by omega)) (cwV 3 X.2.2.2.2 gX9_reckon_X9_unjudged rfl rfl rfl (by decide +kernel) ⟨Nat.le_of_ble_eq_true rfl, Nat.le_of_ble_eq_true rfl⟩) (hw.recv (by decide) hm_MO rfl) rfl rfl hl.1 (Nat.le_of_ble_eq_true rfl) dX9_reckon_184 ?_
  refine tni (fun r23 er23 => ?_)
  refine lv_isub X.1 X.2.1 dX9_reckon_187 ?_
  refine lv_i2l (v := (r22 - r23).toInt64) X.1 X.2.1 dX9_reckon_188 rfl ?_
  refine cVW [.long r21.toInt64, .long ((r22 - r23).toInt64)] [] X hw hS (c_X9_make l G A M r21.toInt64 (r22 - r23).toInt64) (cwV 2 X.2.2.2.2 gX9_reckon_X9_make rfl rfl rfl (by decide +kernel) ⟨Nat.le_of_ble_eq_true rfl, Nat.le_of_ble_eq_true rfl⟩) (hw.recv (by decide) hm_MO rfl) rfl rfl hl.1 (Nat.le_of_ble_eq_true rfl) dX9_reckon_189 (fun H locs hw hS => ?_)
  refine tpb (fun M24 eM24 => ?_)
  rw [← eM24] at hw
  exact rV X hr hlk hw hS dX9_reckon_192
