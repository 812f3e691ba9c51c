/-! 54.mfrac -/
def f_X9_common_17 : Nat → Int64 → Int64 → Int64 → Int64 → Int64
  | 0, _, _, _, _ => 1
  | n1 + 1, v0, v2, v4, v6 => if v6 = 0 then v4 else (bnd (v4 - v4 / v6 * v6) (fun w3 => f_X9_common_17 n1  v0 v2 v6 w3))
def f_X9_common (a1 : Int64) (a2 : Int64) : Int64 := if (0 : Int64) ≤ a1 then (f_X9_common_17 (((a2.toInt.natAbs : Int) : Int).toNat + 1)  a1 a2 a1 a2) else (bnd (-a1) (fun w4 => f_X9_common_17 (((a2.toInt.natAbs : Int) : Int).toNat + 1)  a1 a2 w4 a2))
set_option maxRecDepth 100000 in
set_option maxHeartbeats 4000000 in
theorem c_X9_common (l : Launch) (G : En) (A : Nat → Prop) (M : Mem) (a1 : Int64) (a2 : Int64) : RdL false l yX9_common wsX9_common ({ frames := 0, cells := 0, slots := 0, locals := 0 }) G A M [.long a1, .long a2] (f_X9_common a1 a2) := by
  refine RdL.of (cc := cX9_common) (maxL := 10) (ret := (some .long)) (own := RX9) (by decide) rfl rfl (Nat.le_of_ble_eq_true rfl) ?_
  intro p e s m below meth c X hw hr hlk ls hl
  have hl : lv_has ls 10 [(0, .long a1), (2, .long a2)] := hl
  unfold f_X9_common
  refine lv_lload_n X.1 X.2.1 dX9_common_0 rfl (lv_at hl 0 rfl) ?_
  refine lv_lconst (v := 0) X.1 X.2.1 dX9_common_1 (by decide) ?_
  refine bl_ge (tgt := 11) X dX9_common_2 dX9_common_3 (by decide) (fun c1 => ?_) (fun c1 => ?_)
  · skip
    refine lv_lload_n X.1 X.2.1 dX9_common_11 rfl (lv_at hl 0 rfl) ?_
    refine lv_lstore (lv' := [(4, .long a1), (0, .long a1), (2, .long a2)]) X.1 X.2.1 dX9_common_12 hl (by decide) rfl (fun ls hl => ?_)
    refine lv_lload_n X.1 X.2.1 dX9_common_14 rfl (lv_at hl 2 rfl) ?_
    refine lv_lstore (lv' := [(6, .long a2), (4, .long a1), (0, .long a1), (2, .long a2)]) X.1 X.2.1 dX9_common_15 hl (by decide) rfl (fun ls hl => ?_)
    have L1 : ∀ (n1 : Nat) (v0 : Int64) (v2 : Int64) (v4 : Int64) (v6 : Int64)  (hm1 : ((v6.toInt.natAbs : Int) : Int).toNat < n1) , ∀ ls : Array Slot, lv_has ls 10 [(0, .long v0), (2, .long v2), (4, .long v4), (6, .long v6)] → W p l e ({ frames := 0, cells := 0, slots := 0, locals := 0 } : Room) s m ([.long a1, .long a2] : List Value).toArray below meth c s.heap [] 0 0 (TSl below ([.long a1, .long a2] : List Value).toArray s (f_X9_common_17 n1  v0 v2 v4 v6)) (F0 m 17 ls []) := by
      intro n1
      induction n1 with
      | zero => intro v0 v2 v4 v6 hm1; exact absurd hm1 (by omega)
      | succ n1 ih1 =>
        intro v0 v2 v4 v6 hm1 ls hl
        rw [f_X9_common_17]
        refine lv_lload X.1 X.2.1 dX9_common_17 (lv_at hl 3 rfl) ?_
        refine lv_lconst (v := 0) X.1 X.2.1 dX9_common_19 (by decide) ?_
        refine bl_eq (tgt := 42) X dX9_common_20 dX9_common_21 (by decide) (fun c2 => ?_) (fun c2 => ?_)
        · skip
          refine lv_lload X.1 X.2.1 dX9_common_42 (lv_at hl 2 rfl) ?_
          exact rL X hr hlk dX9_common_44
        · skip
          refine lv_lload X.1 X.2.1 dX9_common_24 (lv_at hl 2 rfl) ?_
          refine lv_lload X.1 X.2.1 dX9_common_26 (lv_at hl 3 rfl) ?_
          refine lv_lrem X.1 X.2.1 dX9_common_28 (by first | decide | assumption | omega) ?_
          refine tnl (fun w3 ew3 => ?_)
          refine lv_lstore (lv' := [(8, .long w3), (0, .long v0), (2, .long v2), (4, .long v4), (6, .long v6)]) X.1 X.2.1 dX9_common_29 hl (by decide) rfl (fun ls hl => ?_)
          refine lv_lload X.1 X.2.1 dX9_common_31 (lv_at hl 4 rfl) ?_
          refine lv_lstore (lv' := [(4, .long v6), (8, .long w3), (0, .long v0), (2, .long v2), (6, .long v6)]) X.1 X.2.1 dX9_common_33 hl (by decide) rfl (fun ls hl => ?_)
          refine lv_lload X.1 X.2.1 dX9_common_35 (lv_at hl 1 rfl) ?_
          refine lv_lstore (lv' := [(6, .long w3), (4, .long v6), (8, .long w3), (0, .long v0), (2, .long v2)]) X.1 X.2.1 dX9_common_37 hl (by decide) rfl (fun ls hl => ?_)
          refine lv_goto (tgt := 17) X.1 X.2.1 dX9_common_39 (by decide) ?_
          have qr := rem_lt v4 v6 (by assumption)
          rw [← ew3] at qr
          exact ih1 v0 v2 v6 w3 (by omega)  ls (lv_sub hl [3, 4, 1, 0] rfl)
    exact L1 (((a2.toInt.natAbs : Int) : Int).toNat + 1) a1 a2 a1 a2 (Nat.lt_succ_self _)  ls (lv_sub hl [2, 3, 1, 0] rfl)
  · skip
    refine lv_lload_n X.1 X.2.1 dX9_common_6 rfl (lv_at hl 0 rfl) ?_
    refine lv_lneg X.1 X.2.1 dX9_common_7 ?_
    refine lv_goto (tgt := 12) X.1 X.2.1 dX9_common_8 (by decide) ?_
    refine tnl (fun w4 ew4 => ?_)
    refine lv_lstore (lv' := [(4, .long w4), (0, .long a1), (2, .long a2)]) X.1 X.2.1 dX9_common_12 hl (by decide) rfl (fun ls hl => ?_)
    refine lv_lload_n X.1 X.2.1 dX9_common_14 rfl (lv_at hl 2 rfl) ?_
    refine lv_lstore (lv' := [(6, .long a2), (4, .long w4), (0, .long a1), (2, .long a2)]) X.1 X.2.1 dX9_common_15 hl (by decide) rfl (fun ls hl => ?_)
    have L2 : ∀ (n2 : Nat) (v0 : Int64) (v2 : Int64) (v4 : Int64) (v6 : Int64)  (hm2 : ((v6.toInt.natAbs : Int) : Int).toNat < n2) , ∀ ls : Array Slot, lv_has ls 10 [(0, .long v0), (2, .long v2), (4, .long v4), (6, .long v6)] → W p l e ({ frames := 0, cells := 0, slots := 0, locals := 0 } : Room) s m ([.long a1, .long a2] : List Value).toArray below meth c s.heap [] 0 0 (TSl below ([.long a1, .long a2] : List Value).toArray s (f_X9_common_17 n2  v0 v2 v4 v6)) (F0 m 17 ls []) := by
      intro n2
      induction n2 with
      | zero => intro v0 v2 v4 v6 hm2; exact absurd hm2 (by omega)
      | succ n2 ih2 =>
        intro v0 v2 v4 v6 hm2 ls hl
        rw [f_X9_common_17]
        refine lv_lload X.1 X.2.1 dX9_common_17 (lv_at hl 3 rfl) ?_
        refine lv_lconst (v := 0) X.1 X.2.1 dX9_common_19 (by decide) ?_
        refine bl_eq (tgt := 42) X dX9_common_20 dX9_common_21 (by decide) (fun c5 => ?_) (fun c5 => ?_)
        · skip
          refine lv_lload X.1 X.2.1 dX9_common_42 (lv_at hl 2 rfl) ?_
          exact rL X hr hlk dX9_common_44
        · skip
          refine lv_lload X.1 X.2.1 dX9_common_24 (lv_at hl 2 rfl) ?_
          refine lv_lload X.1 X.2.1 dX9_common_26 (lv_at hl 3 rfl) ?_
          refine lv_lrem X.1 X.2.1 dX9_common_28 (by first | decide | assumption | omega) ?_
          refine tnl (fun w6 ew6 => ?_)
          refine lv_lstore (lv' := [(8, .long w6), (0, .long v0), (2, .long v2), (4, .long v4), (6, .long v6)]) X.1 X.2.1 dX9_common_29 hl (by decide) rfl (fun ls hl => ?_)
          refine lv_lload X.1 X.2.1 dX9_common_31 (lv_at hl 4 rfl) ?_
          refine lv_lstore (lv' := [(4, .long v6), (8, .long w6), (0, .long v0), (2, .long v2), (6, .long v6)]) X.1 X.2.1 dX9_common_33 hl (by decide) rfl (fun ls hl => ?_)
          refine lv_lload X.1 X.2.1 dX9_common_35 (lv_at hl 1 rfl) ?_
          refine lv_lstore (lv' := [(6, .long w6), (4, .long v6), (8, .long w6), (0, .long v0), (2, .long v2)]) X.1 X.2.1 dX9_common_37 hl (by decide) rfl (fun ls hl => ?_)
          refine lv_goto (tgt := 17) X.1 X.2.1 dX9_common_39 (by decide) ?_
          have qr := rem_lt v4 v6 (by assumption)
          rw [← ew6] at qr
          exact ih2 v0 v2 v6 w6 (by omega)  ls (lv_sub hl [3, 4, 1, 0] rfl)
    exact L2 (((a2.toInt.natAbs : Int) : Int).toNat + 1) a1 a2 w4 a2 (Nat.lt_succ_self _)  ls (lv_sub hl [2, 3, 1, 0] rfl)
theorem cm_ne17 : ∀ (n : Nat) (v0 v2 v4 v6 : Int64), (¬ v6 = 0 ∨ ¬ v4 = 0) → ¬ f_X9_common_17 n v0 v2 v4 v6 = 0
  | 0, _, _, _, _, _ => by unfold f_X9_common_17; decide
  | n + 1, v0, v2, v4, v6, h => by
    rw [f_X9_common_17]
    dsimp only [bnd]
    split
    · rename_i h1
      rcases h with h | h
      · exact absurd h1 h
      · exact h
    · rename_i h1
      exact cm_ne17 n _ _ _ _ (Or.inr h1)
theorem cm_ne (a b : Int64) (h : ¬ b = 0) : ¬ f_X9_common a b = 0 := by
  unfold f_X9_common; dsimp only [bnd]
  split <;> exact cm_ne17 _ _ _ _ _ (Or.inl h)
theorem cm_dvd17 : ∀ (n : Nat) (v0 v2 v4 v6 : Int64), (v6.toInt.natAbs : Int).toNat < n → (f_X9_common_17 n v0 v2 v4 v6).toInt ∣ v6.toInt ∧ (f_X9_common_17 n v0 v2 v4 v6).toInt ∣ v4.toInt
  | 0, _, _, _, _, h => absurd h (by omega)
  | n + 1, v0, v2, v4, v6, h => by
    rw [f_X9_common_17]
    dsimp only [bnd]
    split
    · rename_i h1
      rw [h1]
      exact ⟨Int.dvd_zero _, Int.dvd_refl _⟩
    · rename_i h1
      have hl := rem_lt v4 v6 h1
      have ih := cm_dvd17 n v0 v2 v6 (v4 - v4 / v6 * v6) (by omega)
      refine ⟨ih.2, ?_⟩
      have e := rem_ti v4 v6 h1
      have e2 := Int.tmod_add_tdiv_mul v4.toInt v6.toInt
      rw [← e2]
      rw [e] at ih
      exact Int.dvd_add ih.1 (Int.dvd_mul_of_dvd_right ih.2)
theorem cm_dvd (a b : Int64) : (f_X9_common a b).toInt ∣ b.toInt := by
  unfold f_X9_common; dsimp only [bnd]
  split <;> exact (cm_dvd17 _ _ _ _ _ (Nat.lt_succ_self _)).1
theorem dv_ne {b g : Int64} (hb : ¬ b = 0) (hd : g.toInt ∣ b.toInt) : ¬ b / g = 0 := by
  intro e
  have h1 := congrArg Int64.toInt e
  rw [Int64.toInt_div] at h1
  have e0 : (0 : Int64).toInt = 0 := rfl
  rw [e0] at h1
  obtain ⟨k, hk⟩ := hd
  have hb0 : ¬ b.toInt = 0 := fun z => hb (Int64.toInt_inj.mp z)
  have hg0 : ¬ g.toInt = 0 := fun z => hb0 (by rw [hk, z, Int.zero_mul])
  have hk0 : ¬ k = 0 := fun z => hb0 (by rw [hk, z, Int.mul_zero])
  rw [hk, Int.mul_tdiv_cancel_left _ hg0] at h1
  have hr := l_rg b
  have hle : k.natAbs ≤ b.toInt.natAbs := by
    rw [hk, Int.natAbs_mul]
    exact Nat.le_mul_of_pos_left _ (by omega)
  have h3 : Int.bmod k (2 ^ 64) = 0 := h1
  rw [Int.bmod_def] at h3
  split at h3 <;> omega
theorem mk_nz (a b : Int64) (hb : ¬ b = 0) : ¬ b / f_X9_common a b = 0 := dv_ne hb (cm_dvd a b)

def f_X9_make (M : Mem) (a1 : Int64) (a2 : Int64) : Mem := if a2 = 0 then (bnd (ul M 0 6 0) (fun M7 => bnd (ul M7 0 7 1) (fun M8 => M8))) else (bnd (f_X9_common a1 a2) (fun r2 => bnd (a1 / r2) (fun w3 => bnd (ul M 0 6 w3) (fun M4 => bnd (a2 / r2) (fun w5 => bnd (ul M4 0 7 w5) (fun M6 => M6))))))
set_option maxRecDepth 100000 in
set_option maxHeartbeats 4000000 in
theorem c_X9_make (l : Launch) (G : En) (A : Nat → Prop) (M : Mem) (a1 : Int64) (a2 : Int64) : WrV false l yX9_make wsX9_make ({ frames := 1, cells := 0, slots := 0, locals := 29 }) G A M [.ref (G.2.2 0), .long a1, .long a2] (f_X9_make M a1 a2) := by
  refine WrV.of (cc := cX9_make) (maxL := 7) (ret := none) (own := RX9) (by decide) rfl rfl (Nat.le_of_ble_eq_true rfl) ?_
  intro p e s m below meth c X hw hr hlk ls hl hS
  have hl : lv_has ls 7 [(0, .ref (G.2.2 0)), (1, .long a1), (3, .long a2)] := hl
  unfold f_X9_make
  refine lv_lload_n X.1 X.2.1 dX9_make_0 rfl (lv_at hl 2 rfl) ?_
  refine lv_lconst (v := 0) X.1 X.2.1 dX9_make_1 (by decide) ?_
  refine bl_ne (tgt := 17) X dX9_make_2 dX9_make_3 (by decide) (fun c1 => ?_) (fun c1 => ?_)
  · skip
    refine lv_lload_n X.1 X.2.1 dX9_make_17 rfl (lv_at hl 1 rfl) ?_
    refine lv_lload_n X.1 X.2.1 dX9_make_18 rfl (lv_at hl 2 rfl) ?_
    refine cSL [.long a1, .long a2] [] X hw (c_X9_common l G A M a1 a2) (va_cwS 2 X.2.2.2.2 gX9_make_X9_common rfl rfl rfl (by decide +kernel) ⟨Nat.le_of_ble_eq_true rfl, Nat.le_of_ble_eq_true rfl⟩)  rfl rfl hl.1 (Nat.le_of_ble_eq_true rfl) dX9_make_19 ?_
    refine tnl (fun r2 er2 => ?_)
    refine lv_lstore (lv' := [(5, .long r2), (0, .ref (G.2.2 0)), (1, .long a1), (3, .long a2)]) X.1 X.2.1 dX9_make_22 hl (by decide) rfl (fun ls hl => ?_)
    refine lv_aload_n X.1 X.2.1 dX9_make_24 rfl (lv_at hl 1 rfl) ?_
    refine lv_lload_n X.1 X.2.1 dX9_make_25 rfl (lv_at hl 2 rfl) ?_
    refine lv_lload X.1 X.2.1 dX9_make_26 (lv_at hl 0 rfl) ?_
    refine lv_ldiv X.1 X.2.1 dX9_make_28 (ne_of er2 (cm_ne _ _ (by assumption))) ?_
    refine tnl (fun w3 ew3 => ?_)
    refine pF X hw hS (ul M 0 6 w3) (by decide) hm_MO rfl (by decide +kernel) tyX9 tyX9_ok nmX9 6 (by decide) (ref := "RankBenchModel") rfl (by decide +kernel) rfl rfl rfl (Nat.le_of_ble_eq_true rfl) (by rw [hm_MO, ul_same]; rfl) (fun j hj => rfl) (fun j hj => ul_ne hj) (okM_ul hw.2.2.2.2 (Or.inl (by omega))) dX9_make_29 (fun H locs hw hS => ?_)
    refine tpb (fun M4 eM4 => ?_)
    rw [← eM4] at hw
    refine lv_aload_n X.1 X.2.1 dX9_make_32 rfl (lv_at hl 1 rfl) ?_
    refine lv_lload_n X.1 X.2.1 dX9_make_33 rfl (lv_at hl 3 rfl) ?_
    refine lv_lload X.1 X.2.1 dX9_make_34 (lv_at hl 0 rfl) ?_
    refine lv_ldiv X.1 X.2.1 dX9_make_36 (ne_of er2 (cm_ne _ _ (by assumption))) ?_
    refine tnl (fun w5 ew5 => ?_)
    have nz37 : ¬ w5 = 0 := by rw [ew5, er2]; exact mk_nz _ _ (by assumption)
    refine pF X hw hS (ul M4 0 7 w5) (by decide) hm_MO rfl (by decide +kernel) tyX9 tyX9_ok nmX9 7 (by decide) (ref := "RankBenchModel") rfl (by decide +kernel) rfl rfl rfl (Nat.le_of_ble_eq_true rfl) (by rw [hm_MO, ul_same]; rfl) (fun j hj => rfl) (fun j hj => ul_ne hj) (okM_ul hw.2.2.2.2 (Or.inr nz37)) dX9_make_37 (fun H locs hw hS => ?_)
    refine tpb (fun M6 eM6 => ?_)
    rw [← eM6] at hw
    exact rV X hr hlk hw hS dX9_make_40
  · skip
    refine lv_aload_n X.1 X.2.1 dX9_make_6 rfl (lv_at hl 0 rfl) ?_
    refine lv_lconst (v := 0) X.1 X.2.1 dX9_make_7 (by decide) ?_
    refine pF X hw hS (ul M 0 6 0) (by decide) hm_MO rfl (by decide +kernel) tyX9 tyX9_ok nmX9 6 (by decide) (ref := "RankBenchModel") rfl (by decide +kernel) rfl rfl rfl (Nat.le_of_ble_eq_true rfl) (by rw [hm_MO, ul_same]; rfl) (fun j hj => rfl) (fun j hj => ul_ne hj) (okM_ul hw.2.2.2.2 (Or.inl (by omega))) dX9_make_8 (fun H locs hw hS => ?_)
    refine tpb (fun M7 eM7 => ?_)
    rw [← eM7] at hw
    refine lv_aload_n X.1 X.2.1 dX9_make_11 rfl (lv_at hl 0 rfl) ?_
    refine lv_lconst (v := 1) X.1 X.2.1 dX9_make_12 (by decide) ?_
    refine pF X hw hS (ul M7 0 7 1) (by decide) hm_MO rfl (by decide +kernel) tyX9 tyX9_ok nmX9 7 (by decide) (ref := "RankBenchModel") rfl (by decide +kernel) rfl rfl rfl (Nat.le_of_ble_eq_true rfl) (by rw [hm_MO, ul_same]; rfl) (fun j hj => rfl) (fun j hj => ul_ne hj) (okM_ul hw.2.2.2.2 (Or.inr (by decide))) dX9_make_13 (fun H locs hw hS => ?_)
    refine tpb (fun M8 eM8 => ?_)
    rw [← eM8] at hw
    exact rV X hr hlk hw hS dX9_make_16

def f_X9_plus (M : Mem) (a1 : Int64) (a2 : Int64) : Mem := bnd (f_X9_common (M.2 0 7) a2) (fun r1 => bnd (f_X9_make M (((M.2 0 6) * (a2 / r1)) + (a1 * ((M.2 0 7) / r1))) (((M.2 0 7) / r1) * a2)) (fun M2 => M2))
set_option maxRecDepth 100000 in
set_option maxHeartbeats 4000000 in
theorem c_X9_plus (l : Launch) (G : En) (A : Nat → Prop) (M : Mem) (a1 : Int64) (a2 : Int64) (hb : ¬ a2 = 0) : WrV false l yX9_plus wsX9_plus ({ frames := 2, cells := 0, slots := 0, locals := 55 }) G A M [.ref (G.2.2 0), .long a1, .long a2] (f_X9_plus M a1 a2) := by
  refine WrV.of (cc := cX9_plus) (maxL := 7) (ret := none) (own := RX9) (by decide) rfl rfl (Nat.le_of_ble_eq_true rfl) ?_
  intro p e s m below meth c X hw hr hlk ls hl hS
  have hl : lv_has ls 7 [(0, .ref (G.2.2 0)), (1, .long a1), (3, .long a2)] := hl
  unfold f_X9_plus
  refine lv_aload_n X.1 X.2.1 dX9_plus_0 rfl (lv_at hl 0 rfl) ?_
  refine gF X hw (by decide) hm_MO rfl (by decide +kernel) 7 (by decide) (ref := "RankBenchModel") rfl (by decide +kernel) rfl dX9_plus_1 ?_
  refine lv_lload_n X.1 X.2.1 dX9_plus_4 rfl (lv_at hl 2 rfl) ?_
  refine cSL [.long (M.2 0 7), .long a2] [] X hw (c_X9_common l G A M (M.2 0 7) a2) (va_cwS 2 X.2.2.2.2 gX9_plus_X9_common rfl rfl rfl (by decide +kernel) ⟨Nat.le_of_ble_eq_true rfl, Nat.le_of_ble_eq_true rfl⟩)  rfl rfl hl.1 (Nat.le_of_ble_eq_true rfl) dX9_plus_5 ?_
  refine tnl (fun r1 er1 => ?_)
  refine lv_lstore (lv' := [(5, .long r1), (0, .ref (G.2.2 0)), (1, .long a1), (3, .long a2)]) X.1 X.2.1 dX9_plus_8 hl (by decide) rfl (fun ls hl => ?_)
  refine lv_aload_n X.1 X.2.1 dX9_plus_10 rfl (lv_at hl 1 rfl) ?_
  refine lv_aload_n X.1 X.2.1 dX9_plus_11 rfl (lv_at hl 1 rfl) ?_
  refine gF X hw (by decide) hm_MO rfl (by decide +kernel) 6 (by decide) (ref := "RankBenchModel") rfl (by decide +kernel) rfl dX9_plus_12 ?_
  refine lv_lload_n X.1 X.2.1 dX9_plus_15 rfl (lv_at hl 3 rfl) ?_
  refine lv_lload X.1 X.2.1 dX9_plus_16 (lv_at hl 0 rfl) ?_
  refine lv_ldiv X.1 X.2.1 dX9_plus_18 (ne_of er1 (cm_ne _ _ hb)) ?_
  refine lv_lmul X.1 X.2.1 dX9_plus_19 ?_
  refine lv_lload_n X.1 X.2.1 dX9_plus_20 rfl (lv_at hl 2 rfl) ?_
  refine lv_aload_n X.1 X.2.1 dX9_plus_21 rfl (lv_at hl 1 rfl) ?_
  refine gF X hw (by decide) hm_MO rfl (by decide +kernel) 7 (by decide) (ref := "RankBenchModel") rfl (by decide +kernel) rfl dX9_plus_22 ?_
  refine lv_lload X.1 X.2.1 dX9_plus_25 (lv_at hl 0 rfl) ?_
  refine lv_ldiv X.1 X.2.1 dX9_plus_27 (ne_of er1 (cm_ne _ _ hb)) ?_
  refine lv_lmul X.1 X.2.1 dX9_plus_28 ?_
  refine lv_ladd X.1 X.2.1 dX9_plus_29 ?_
  refine lv_aload_n X.1 X.2.1 dX9_plus_30 rfl (lv_at hl 1 rfl) ?_
  refine gF X hw (by decide) hm_MO rfl (by decide +kernel) 7 (by decide) (ref := "RankBenchModel") rfl (by decide +kernel) rfl dX9_plus_31 ?_
  refine lv_lload X.1 X.2.1 dX9_plus_34 (lv_at hl 0 rfl) ?_
  refine lv_ldiv X.1 X.2.1 dX9_plus_36 (ne_of er1 (cm_ne _ _ hb)) ?_
  refine lv_lload_n X.1 X.2.1 dX9_plus_37 rfl (lv_at hl 3 rfl) ?_
  refine lv_lmul X.1 X.2.1 dX9_plus_38 ?_
  refine cVW [.long (((M.2 0 6) * (a2 / r1)) + (a1 * ((M.2 0 7) / r1))), .long (((M.2 0 7) / r1) * a2)] [] X hw hS (c_X9_make l G A M (((M.2 0 6) * (a2 / r1)) + (a1 * ((M.2 0 7) / r1))) (((M.2 0 7) / r1) * a2)) (cwV 2 X.2.2.2.2 gX9_plus_X9_make rfl rfl rfl (by decide +kernel) ⟨Nat.le_of_ble_eq_true rfl, Nat.le_of_ble_eq_true rfl⟩) (hw.recv (by decide) hm_MO rfl) rfl rfl hl.1 (Nat.le_of_ble_eq_true rfl) dX9_plus_39 (fun H locs hw hS => ?_)
  refine tpb (fun M2 eM2 => ?_)
  rw [← eM2] at hw
  exact rV X hr hlk hw hS dX9_plus_42

def f_X9_over (M : Mem) (a1 : Int64) : Mem := if a1 = 0 then (bnd (f_X9_make M 0 1) (fun M4 => M4)) else (bnd (f_X9_common (M.2 0 6) a1) (fun r2 => bnd (f_X9_make M ((M.2 0 6) / r2) ((M.2 0 7) * (a1 / r2))) (fun M3 => M3)))
set_option maxRecDepth 100000 in
set_option maxHeartbeats 4000000 in
theorem c_X9_over (l : Launch) (G : En) (A : Nat → Prop) (M : Mem) (a1 : Int64) : WrV false l yX9_over wsX9_over ({ frames := 2, cells := 0, slots := 0, locals := 55 }) G A M [.ref (G.2.2 0), .long a1] (f_X9_over M a1) := by
  refine WrV.of (cc := cX9_over) (maxL := 5) (ret := none) (own := RX9) (by decide) rfl rfl (Nat.le_of_ble_eq_true rfl) ?_
  intro p e s m below meth c X hw hr hlk ls hl hS
  have hl : lv_has ls 5 [(0, .ref (G.2.2 0)), (1, .long a1)] := hl
  unfold f_X9_over
  refine lv_lload_n X.1 X.2.1 dX9_over_0 rfl (lv_at hl 1 rfl) ?_
  refine lv_lconst (v := 0) X.1 X.2.1 dX9_over_1 (by decide) ?_
  refine bl_ne (tgt := 15) X dX9_over_2 dX9_over_3 (by decide) (fun c1 => ?_) (fun c1 => ?_)
  · skip
    refine lv_aload_n X.1 X.2.1 dX9_over_15 rfl (lv_at hl 0 rfl) ?_
    refine gF X hw (by decide) hm_MO rfl (by decide +kernel) 6 (by decide) (ref := "RankBenchModel") rfl (by decide +kernel) rfl dX9_over_16 ?_
    refine lv_lload_n X.1 X.2.1 dX9_over_19 rfl (lv_at hl 1 rfl) ?_
    refine cSL [.long (M.2 0 6), .long a1] [] X hw (c_X9_common l G A M (M.2 0 6) a1) (va_cwS 2 X.2.2.2.2 gX9_over_X9_common rfl rfl rfl (by decide +kernel) ⟨Nat.le_of_ble_eq_true rfl, Nat.le_of_ble_eq_true rfl⟩)  rfl rfl hl.1 (Nat.le_of_ble_eq_true rfl) dX9_over_20 ?_
    refine tnl (fun r2 er2 => ?_)
    refine lv_lstore_n (lv' := [(3, .long r2), (0, .ref (G.2.2 0)), (1, .long a1)]) X.1 X.2.1 dX9_over_23 rfl hl (by decide) rfl (fun ls hl => ?_)
    refine lv_aload_n X.1 X.2.1 dX9_over_24 rfl (lv_at hl 1 rfl) ?_
    refine lv_aload_n X.1 X.2.1 dX9_over_25 rfl (lv_at hl 1 rfl) ?_
    refine gF X hw (by decide) hm_MO rfl (by decide +kernel) 6 (by decide) (ref := "RankBenchModel") rfl (by decide +kernel) rfl dX9_over_26 ?_
    refine lv_lload_n X.1 X.2.1 dX9_over_29 rfl (lv_at hl 0 rfl) ?_
    refine lv_ldiv X.1 X.2.1 dX9_over_30 (ne_of er2 (cm_ne _ _ (by assumption))) ?_
    refine lv_aload_n X.1 X.2.1 dX9_over_31 rfl (lv_at hl 1 rfl) ?_
    refine gF X hw (by decide) hm_MO rfl (by decide +kernel) 7 (by decide) (ref := "RankBenchModel") rfl (by decide +kernel) rfl dX9_over_32 ?_
    refine lv_lload_n X.1 X.2.1 dX9_over_35 rfl (lv_at hl 2 rfl) ?_
    refine lv_lload_n X.1 X.2.1 dX9_over_36 rfl (lv_at hl 0 rfl) ?_
    refine lv_ldiv X.1 X.2.1 dX9_over_37 (ne_of er2 (cm_ne _ _ (by assumption))) ?_
    refine lv_lmul X.1 X.2.1 dX9_over_38 ?_
    refine cVW [.long ((M.2 0 6) / r2), .long ((M.2 0 7) * (a1 / r2))] [] X hw hS (c_X9_make l G A M ((M.2 0 6) / r2) ((M.2 0 7) * (a1 / r2))) (cwV 2 X.2.2.2.2 gX9_over_X9_make rfl rfl rfl (by decide +kernel) ⟨Nat.le_of_ble_eq_true rfl, Nat.le_of_ble_eq_true rfl⟩) (hw.recv (by decide) hm_MO rfl) rfl rfl hl.1 (Nat.le_of_ble_eq_true rfl) dX9_over_39 (fun H locs hw hS => ?_)
    refine tpb (fun M3 eM3 => ?_)
    rw [← eM3] at hw
    exact rV X hr hlk hw hS dX9_over_42
  · skip
    refine lv_aload_n X.1 X.2.1 dX9_over_6 rfl (lv_at hl 0 rfl) ?_
    refine lv_lconst (v := 0) X.1 X.2.1 dX9_over_7 (by decide) ?_
    refine lv_lconst (v := 1) X.1 X.2.1 dX9_over_8 (by decide) ?_
    refine cVW [.long 0, .long 1] [] X hw hS (c_X9_make l G A M 0 1) (cwV 2 X.2.2.2.2 gX9_over_X9_make rfl rfl rfl (by decide +kernel) ⟨Nat.le_of_ble_eq_true rfl, Nat.le_of_ble_eq_true rfl⟩) (hw.recv (by decide) hm_MO rfl) rfl rfl hl.1 (Nat.le_of_ble_eq_true rfl) dX9_over_9 (fun H locs hw hS => ?_)
    refine tpb (fun M4 eM4 => ?_)
    rw [← eM4] at hw
    refine lv_goto (tgt := 42) X.1 X.2.1 dX9_over_12 (by decide) ?_
    exact rV X hr hlk hw hS dX9_over_42

def f_X9_show (M : Mem) : Mem := bnd (M.2 0 6) (fun w1 => bnd (ul M 0 4 w1) (fun M2 => bnd (M2.2 0 7) (fun w3 => bnd (ul M2 0 5 w3) (fun M4 => M4))))
set_option maxRecDepth 100000 in
set_option maxHeartbeats 4000000 in
theorem c_X9_show (l : Launch) (G : En) (A : Nat → Prop) (M : Mem)  : WrV false l yX9_show wsX9_show ({ frames := 0, cells := 0, slots := 0, locals := 0 }) G A M [.ref (G.2.2 0)] (f_X9_show M) := by
  refine WrV.of (cc := cX9_show) (maxL := 1) (ret := none) (own := RX9) (by decide) rfl rfl (Nat.le_of_ble_eq_true rfl) ?_
  intro p e s m below meth c X hw hr hlk ls hl hS
  have hl : lv_has ls 1 [(0, .ref (G.2.2 0))] := hl
  unfold f_X9_show
  refine lv_aload_n X.1 X.2.1 dX9_show_0 rfl (lv_at hl 0 rfl) ?_
  refine lv_aload_n X.1 X.2.1 dX9_show_1 rfl (lv_at hl 0 rfl) ?_
  refine gF X hw (by decide) hm_MO rfl (by decide +kernel) 6 (by decide) (ref := "RankBenchModel") rfl (by decide +kernel) rfl dX9_show_2 ?_
  refine tnl (fun w1 ew1 => ?_)
  refine pF X hw hS (ul M 0 4 w1) (by decide) hm_MO rfl (by decide +kernel) tyX9 tyX9_ok nmX9 4 (by decide) (ref := "RankBenchModel") rfl (by decide +kernel) rfl rfl rfl (Nat.le_of_ble_eq_true rfl) (by rw [hm_MO, ul_same]; rfl) (fun j hj => rfl) (fun j hj => ul_ne hj) (okM_ul hw.2.2.2.2 (Or.inl (by omega))) dX9_show_5 (fun H locs hw hS => ?_)
  refine tpb (fun M2 eM2 => ?_)
  rw [← eM2] at hw
  refine lv_aload_n X.1 X.2.1 dX9_show_8 rfl (lv_at hl 0 rfl) ?_
  refine lv_aload_n X.1 X.2.1 dX9_show_9 rfl (lv_at hl 0 rfl) ?_
  refine gF X hw (by decide) hm_MO rfl (by decide +kernel) 7 (by decide) (ref := "RankBenchModel") rfl (by decide +kernel) rfl dX9_show_10 ?_
  refine tnl (fun w3 ew3 => ?_)
  refine pF X hw hS (ul M2 0 5 w3) (by decide) hm_MO rfl (by decide +kernel) tyX9 tyX9_ok nmX9 5 (by decide) (ref := "RankBenchModel") rfl (by decide +kernel) rfl rfl rfl (Nat.le_of_ble_eq_true rfl) (by rw [hm_MO, ul_same]; rfl) (fun j hj => rfl) (fun j hj => ul_ne hj) (okM_ul hw.2.2.2.2 (Or.inl (by omega))) dX9_show_13 (fun H locs hw hS => ?_)
  refine tpb (fun M4 eM4 => ?_)
  rw [← eM4] at hw
  exact rV X hr hlk hw hS dX9_show_16

def f_X9_top (M : Mem) : Int64 := (M.2 0 4)
set_option maxRecDepth 100000 in
set_option maxHeartbeats 4000000 in
theorem c_X9_top (l : Launch) (G : En) (A : Nat → Prop) (M : Mem)  : RdL false l yX9_top wsX9_top ({ frames := 0, cells := 0, slots := 0, locals := 0 }) G A M [.ref (G.2.2 0)] (f_X9_top M) := by
  refine RdL.of (cc := cX9_top) (maxL := 1) (ret := (some .long)) (own := RX9) (by decide) rfl rfl (Nat.le_of_ble_eq_true rfl) ?_
  intro p e s m below meth c X hw hr hlk ls hl
  have hl : lv_has ls 1 [(0, .ref (G.2.2 0))] := hl
  unfold f_X9_top
  refine lv_aload_n X.1 X.2.1 dX9_top_0 rfl (lv_at hl 0 rfl) ?_
  refine gF X hw (by decide) hm_MO rfl (by decide +kernel) 4 (by decide) (ref := "RankBenchModel") rfl (by decide +kernel) rfl dX9_top_1 ?_
  exact rL X hr hlk dX9_top_4

def f_X9_bottom (M : Mem) : Int64 := (M.2 0 5)
set_option maxRecDepth 100000 in
set_option maxHeartbeats 4000000 in
theorem c_X9_bottom (l : Launch) (G : En) (A : Nat → Prop) (M : Mem)  : RdL false l yX9_bottom wsX9_bottom ({ frames := 0, cells := 0, slots := 0, locals := 0 }) G A M [.ref (G.2.2 0)] (f_X9_bottom M) := by
  refine RdL.of (cc := cX9_bottom) (maxL := 1) (ret := (some .long)) (own := RX9) (by decide) rfl rfl (Nat.le_of_ble_eq_true rfl) ?_
  intro p e s m below meth c X hw hr hlk ls hl
  have hl : lv_has ls 1 [(0, .ref (G.2.2 0))] := hl
  unfold f_X9_bottom
  refine lv_aload_n X.1 X.2.1 dX9_bottom_0 rfl (lv_at hl 0 rfl) ?_
  refine gF X hw (by decide) hm_MO rfl (by decide +kernel) 5 (by decide) (ref := "RankBenchModel") rfl (by decide +kernel) rfl dX9_bottom_1 ?_
  exact rL X hr hlk dX9_bottom_4

def f_X9_worth (a1 : Int32) : Int32 := ((1 <<< (a1 &&& 31)) - 1)
set_option maxRecDepth 100000 in
set_option maxHeartbeats 4000000 in
theorem c_X9_worth (l : Launch) (G : En) (A : Nat → Prop) (M : Mem) (a1 : Int32) : RdI false l yX9_worth wsX9_worth ({ frames := 0, cells := 0, slots := 0, locals := 0 }) G A M [.int a1] (f_X9_worth a1) := by
  refine RdI.of (cc := cX9_worth) (maxL := 1) (ret := (some .int)) (own := RX9) (by decide) rfl rfl (Nat.le_of_ble_eq_true rfl) ?_
  intro p e s m below meth c X hw hr hlk ls hl
  have hl : lv_has ls 1 [(0, .int a1)] := hl
  unfold f_X9_worth
  refine lv_iconst (v := 1) X.1 X.2.1 dX9_worth_0 (by decide) ?_
  refine lv_iload_n X.1 X.2.1 dX9_worth_1 rfl (lv_at hl 0 rfl) ?_
  refine lv_ishl X.1 X.2.1 dX9_worth_2 ?_
  refine lv_iconst (v := 1) X.1 X.2.1 dX9_worth_3 (by decide) ?_
  refine lv_isub X.1 X.2.1 dX9_worth_4 ?_
  exact rI X hr hlk dX9_worth_5
