/-! 97b: the law's loop -/
theorem and31 (v : Int32) : 0 ≤ (v &&& 31).toInt := by
  have hb : (v &&& 31).toBitVec.toNat ≤ 31 := by
    rw [Int32.toBitVec_and, BitVec.toNat_and]
    exact Nat.le_trans Nat.and_le_right (by decide)
  have e : (v &&& 31).toInt = (v &&& 31).toBitVec.toInt := rfl
  rw [e, BitVec.toInt_eq_toNat_of_lt (by omega)]
  omega
set_option maxHeartbeats 4000000 in
set_option maxRecDepth 100000 in
theorem law_loop {p : Program} {e : Env} {s : State} {m : MethodId} {below : List Frame} {meth : Method} {c : Code} (l : Launch) {b L : Nat} {xs : Nat → Int32} {D : va_G} {E : Nat → ClassId} {d1 d2 : Nat → Nat} {A1 A2 : Nat → Prop} (X : LX p s m c b L xs D E A1 A2) (hr : meth.sig.returnType = ret) (hlocks : meth.locks = false) : ∀ (j : Nat) (x : Int32) (M1 M2 : Mem) (H : Heap) (locs : List Loc) (ls : Array Slot), 0 ≤ x.toInt → x.toInt ≤ 4000 → (L : Int) < x.toInt + j → lv_has ls 4 [(0, .ref b), (1, .ref (d1 0)), (2, .ref (d2 0)), (3, .int x)] → W3 true (D, E, d1) A1 M1 H → W3 false (D, E, d2) A2 M2 H → Rel M1 M2 → va_S (oldC s) s.heap H locs → W p l e room_1 s m #[Value.ref b] below meth c H locs 600000 7302250 (lw_Z below #[Value.ref b] s) (F0 m 18 ls []) := by
  have hL := X.2.2.2.2.2.2.2.2
  have hbA : ¬ oldC s b := Nat.not_le.mpr X.2.2.2.2.2.2.2.1
  have eL : (Int32.ofNat L - 6).toInt = (L : Int) - 6 := by
    have e1 : (Int32.ofNat L).toInt = (L : Int) := Int32.toInt_ofNat_of_lt (by omega)
    have e6 : (6 : Int32).toInt = 6 := rfl
    rw [i_sub (by omega) (by omega)]; omega
  have six : (6 : Int32).toInt = 6 := rfl
  intro j
  induction j with
  | zero =>
    intro x M1 M2 H locs ls hx0 hx1 hj hl h1 h2 hR hS
    refine lv_iload_n X.1.1 X.1.2.1 dL_law_18 rfl (lv_at hl 3 rfl) ?_
    refine lv_aload_n X.1.1 X.1.2.1 dL_law_19 rfl (lv_at hl 0 rfl) ?_
    refine va_slen X.1.1 X.1.2.1 X.2.2.2.2.2.2.1 X.2.2.2.2.2.2.2.1 hbA hS dL_law_20 ?_
    refine lv_bipush (v := 6) X.1.1 X.1.2.1 dL_law_21 (by decide) ?_
    refine lv_isub X.1.1 X.1.2.1 dL_law_23 ?_
    refine lv_icmp_gt (tgt := 986) X.1.1 X.1.2.1 dL_law_24 (by decide) (fun _ => ?_) (fun cz => absurd (Int32.lt_iff_toInt_lt.mpr (by omega)) cz)
    refine lv_iconst (v := 1) X.1.1 X.1.2.1 dL_law_986 (by decide) ?_
    exact va_forget (fun q hq => hS.2.2 q hq) (lw_ret X.1.1 X.1.2.1 hr hlocks dL_law_987)
  | succ j ih =>
    intro x M1 M2 H locs ls hx0 hx1 hj hl h1 h2 hR hS
    refine lv_iload_n X.1.1 X.1.2.1 dL_law_18 rfl (lv_at hl 3 rfl) ?_
    refine lv_aload_n X.1.1 X.1.2.1 dL_law_19 rfl (lv_at hl 0 rfl) ?_
    refine va_slen X.1.1 X.1.2.1 X.2.2.2.2.2.2.1 X.2.2.2.2.2.2.2.1 hbA hS dL_law_20 ?_
    refine lv_bipush (v := 6) X.1.1 X.1.2.1 dL_law_21 (by decide) ?_
    refine lv_isub X.1.1 X.1.2.1 dL_law_23 ?_
    refine lv_icmp_gt (tgt := 986) X.1.1 X.1.2.1 dL_law_24 (by decide) (fun _ => ?_) (fun cz => ?_)
    · refine lv_iconst (v := 1) X.1.1 X.1.2.1 dL_law_986 (by decide) ?_
      exact va_forget (fun q hq => hS.2.2 q hq) (lw_ret X.1.1 X.1.2.1 hr hlocks dL_law_987)
    · have hle := i_nlt cz
      rw [eL] at hle
      have hi : 0 ≤ x.toInt ∧ x.toInt + 6 ≤ L := ⟨hx0, by omega⟩
      have e6 : (x + 6).toInt = x.toInt + 6 := by rw [i_add (by omega) (by omega)]; omega
      have kk : ∀ (M1 M2 : Mem) (H : Heap) (locs : List Loc), W3 true (D, E, d1) A1 M1 H → W3 false (D, E, d2) A2 M2 H → Rel M1 M2 → va_S (oldC s) s.heap H locs → W p l e room_1 s m #[Value.ref b] below meth c H locs 600000 7302250 (lw_Z below #[Value.ref b] s) (F0 m 980 ls []) := by
        intro M1 M2 H locs h1 h2 hR hS
        refine lv_iinc (v := x + 6) (lv' := [(3, .int (x + 6)), (0, .ref b), (1, .ref (d1 0)), (2, .ref (d2 0))]) X.1.1 X.1.2.1 dL_law_980 hl (k := 3) rfl rfl (by decide) rfl (fun ls hl => ?_)
        refine lv_goto (tgt := 18) X.1.1 X.1.2.1 dL_law_983 (by decide) ?_
        exact ih (x + 6) M1 M2 H locs ls (by omega) (by omega) (by omega) (lv_sub hl [1, 2, 3, 0] rfl) h1 h2 hR hS
      have i0 : vp_in x L := by
        have t := lwin 0 ⟨by decide, by decide⟩ hi hL
        rw [i_add0] at t; exact t
      refine lv_aload_n X.1.1 X.1.2.1 dL_law_27 rfl (lv_at hl 0 rfl) ?_
      refine lv_iload_n X.1.1 X.1.2.1 dL_law_28 rfl (lv_at hl 3 rfl) ?_
      refine va_sld X.1.1 X.1.2.1 X.2.2.2.2.2.2.1 X.2.2.2.2.2.2.2.1 hbA hS i0 dL_law_29 ?_
      refine lv_bipush (v := 31) X.1.1 X.1.2.1 dL_law_30 (by decide) ?_
      refine lv_iand X.1.1 X.1.2.1 dL_law_32 ?_
      have hv0 := and31 (xs x.toNatClampNeg)
      generalize xs x.toNatClampNeg &&& 31 = v at *
      by_cases hv : 18 < v.toInt
      · exact lv_tableOut (tgt := 980) X.1.1 X.1.2.1 dL_law_33 (Or.inr hv) (by decide) (kk M1 M2 H locs h1 h2 hR hS)
      · have hc : v.toInt = 0 ∨ v.toInt = 1 ∨ v.toInt = 2 ∨ v.toInt = 3 ∨ v.toInt = 4 ∨ v.toInt = 5 ∨ v.toInt = 6 ∨ v.toInt = 7 ∨ v.toInt = 8 ∨ v.toInt = 9 ∨ v.toInt = 10 ∨ v.toInt = 11 ∨ v.toInt = 12 ∨ v.toInt = 13 ∨ v.toInt = 14 ∨ v.toInt = 15 ∨ v.toInt = 16 ∨ v.toInt = 17 ∨ v.toInt = 18 := by omega
        rcases hc with z | z | z | z | z | z | z | z | z | z | z | z | z | z | z | z | z | z | z
        · exact lv_tableIn (off := 91) (tgt := 124) X.1.1 X.1.2.1 dL_law_33 (by omega) (by omega) (by rw [z]; rfl) (by decide) (lc_grade l X hi hl h1 h2 hR hS kk)
        · exact lv_tableIn (off := 134) (tgt := 167) X.1.1 X.1.2.1 dL_law_33 (by omega) (by omega) (by rw [z]; rfl) (by decide) (lc_rank l X hi hl h1 h2 hR hS kk)
        · exact lv_tableIn (off := 177) (tgt := 210) X.1.1 X.1.2.1 dL_law_33 (by omega) (by omega) (by rw [z]; rfl) (by decide) (lc_empty l X hi hl h1 h2 hR hS kk)
        · exact lv_tableIn (off := 210) (tgt := 243) X.1.1 X.1.2.1 dL_law_33 (by omega) (by omega) (by rw [z]; rfl) (by decide) (lc_drop l X hi hl h1 h2 hR hS kk)
        · exact lv_tableIn (off := 243) (tgt := 276) X.1.1 X.1.2.1 dL_law_33 (by omega) (by omega) (by rw [z]; rfl) (by decide) (lc_at l X hi hl h1 h2 hR hS kk)
        · exact lv_tableIn (off := 286) (tgt := 319) X.1.1 X.1.2.1 dL_law_33 (by omega) (by omega) (by rw [z]; rfl) (by decide) (lc_count l X hi hl h1 h2 hR hS kk)
        · exact lv_tableIn (off := 319) (tgt := 352) X.1.1 X.1.2.1 dL_law_33 (by omega) (by omega) (by rw [z]; rfl) (by decide) (lc_measure l X hi hl h1 h2 hR hS kk)
        · exact lv_tableIn (off := 372) (tgt := 405) X.1.1 X.1.2.1 dL_law_33 (by omega) (by omega) (by rw [z]; rfl) (by decide) (lc_top l X hi hl h1 h2 hR hS kk)
        · exact lv_tableIn (off := 386) (tgt := 419) X.1.1 X.1.2.1 dL_law_33 (by omega) (by omega) (by rw [z]; rfl) (by decide) (lc_bottom l X hi hl h1 h2 hR hS kk)
        · exact lv_tableIn (off := 400) (tgt := 433) X.1.1 X.1.2.1 dL_law_33 (by omega) (by omega) (by rw [z]; rfl) (by decide) (lc_gain l X hi hl h1 h2 hR hS kk)
        · exact lv_tableIn (off := 470) (tgt := 503) X.1.1 X.1.2.1 dL_law_33 (by omega) (by omega) (by rw [z]; rfl) (by decide) (lc_mean l X hi hl h1 h2 hR hS kk)
        · exact lv_tableIn (off := 513) (tgt := 546) X.1.1 X.1.2.1 dL_law_33 (by omega) (by omega) (by rw [z]; rfl) (by decide) (lc_odds l X hi hl h1 h2 hR hS kk)
        · exact lv_tableIn (off := 566) (tgt := 599) X.1.1 X.1.2.1 dL_law_33 (by omega) (by omega) (by rw [z]; rfl) (by decide) (lc_wins l X hi hl h1 h2 hR hS kk)
        · exact lv_tableIn (off := 629) (tgt := 662) X.1.1 X.1.2.1 dL_law_33 (by omega) (by omega) (by rw [z]; rfl) (by decide) (lc_likeness l X hi hl h1 h2 hR hS kk)
        · exact lv_tableIn (off := 672) (tgt := 705) X.1.1 X.1.2.1 dL_law_33 (by omega) (by omega) (by rw [z]; rfl) (by decide) (lc_overlap l X hi hl h1 h2 hR hS kk)
        · exact lv_tableIn (off := 725) (tgt := 758) X.1.1 X.1.2.1 dL_law_33 (by omega) (by omega) (by rw [z]; rfl) (by decide) (lc_pool l X hi hl h1 h2 hR hS kk)
        · exact lv_tableIn (off := 768) (tgt := 801) X.1.1 X.1.2.1 dL_law_33 (by omega) (by omega) (by rw [z]; rfl) (by decide) (lc_laid l X hi hl h1 h2 hR hS kk)
        · exact lv_tableIn (off := 831) (tgt := 864) X.1.1 X.1.2.1 dL_law_33 (by omega) (by omega) (by rw [z]; rfl) (by decide) (lc_clicks l X hi hl h1 h2 hR hS kk)
        · exact lv_tableIn (off := 884) (tgt := 917) X.1.1 X.1.2.1 dL_law_33 (by omega) (by omega) (by rw [z]; rfl) (by decide) (lc_prefer l X hi hl h1 h2 hR hS kk)
