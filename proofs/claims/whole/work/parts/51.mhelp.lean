/-! 51: facts for the model -/
theorem okM_ui {M : Mem} {i k : Nat} {v : Int32} (h : okM M) (hk : (i = 1 ∨ i = 4 ∨ i = 8) ∨ (i = 3 ∧ 0 ≤ v.toInt ∧ v.toInt ≤ 16) ∨ ((i = 2 ∨ i = 7) ∧ 0 ≤ v.toInt ∧ v.toInt ≤ 23) ∨ (i = 0 ∧ k ≠ 13) ∨ (i = 0 ∧ k = 13 ∧ 0 ≤ v.toInt ∧ v.toInt ≤ 16)) : okM (ui M i k v) := by
  obtain ⟨h1, h2, h3, h4, h5⟩ := h
  have key : ∀ (j q : Nat) (lo hi : Int), (lo ≤ (M.1 j q).toInt ∧ (M.1 j q).toInt ≤ hi) → ((j = i ∧ q = k) → lo ≤ v.toInt ∧ v.toInt ≤ hi) → lo ≤ ((ui M i k v).1 j q).toInt ∧ ((ui M i k v).1 j q).toInt ≤ hi := by
    intro j q lo hi a b
    by_cases hj : j = i
    · subst hj
      rw [ui_same]
      unfold upd
      by_cases hq : q = k
      · rw [if_pos hq]; exact b ⟨rfl, hq⟩
      · rw [if_neg hq]; exact a
    · rw [ui_ne hj]; exact a
  refine ⟨fun j hj => key 3 j 0 16 (h1 j hj) (fun e => ?_), fun j hj => key 2 j 0 23 (h2 j hj) (fun e => ?_), fun j hj => key 7 j 0 23 (h3 j hj) (fun e => ?_), key 0 13 0 16 h4 (fun e => ?_), h5⟩
  · rcases hk with q | q | q | q | q <;> first | exact q.2 | exact q.2.2 | (exfalso; omega)
  · rcases hk with q | q | q | q | q <;> first | exact q.2 | exact q.2.2 | (exfalso; omega)
  · rcases hk with q | q | q | q | q <;> first | exact q.2 | exact q.2.2 | (exfalso; omega)
  · rcases hk with q | q | q | q | q <;> first | exact q.2 | exact q.2.2 | (exfalso; omega)
theorem okM_ul {M : Mem} {i k : Nat} {v : Int64} (h : okM M) (hk : ¬ (i = 0 ∧ k = 7) ∨ ¬ v = 0) : okM (ul M i k v) := by
  obtain ⟨h1, h2, h3, h4, h5⟩ := h
  refine ⟨h1, h2, h3, h4, ?_⟩
  by_cases hi : 0 = i
  · subst hi
    rw [ul_same]
    unfold vp_updL
    by_cases hq : 7 = k
    · rw [if_pos hq]
      rcases hk with q | q
      · exact absurd ⟨rfl, hq.symm⟩ q
      · exact q
    · rw [if_neg hq]; exact h5
  · rw [ul_ne hi]; exact h5
theorem okM_nz {M : Mem} (h : okB false M) : ¬ M.2 0 7 = 0 := h.2.2.2.2
theorem ix8 {r q : Int32} (hr : 0 ≤ r.toInt ∧ r.toInt < 4) (hq : 0 ≤ q.toInt ∧ q.toInt < 8) : (8 * r + q).toInt = 8 * r.toInt + q.toInt := by
  have e8 : (8 : Int32).toInt = 8 := rfl
  have e1 : (8 * r).toInt = 8 * r.toInt := by rw [i_mul (by rw [e8]; omega) (by rw [e8]; omega), e8]
  rw [i_add (by rw [e1]; omega) (by rw [e1]; omega), e1]
theorem ix24 {q d : Int32} (hq : 0 ≤ q.toInt ∧ q.toInt < 8) (hd : 0 ≤ d.toInt ∧ d.toInt < 24) : (24 * q + d).toInt = 24 * q.toInt + d.toInt := by
  have e8 : (24 : Int32).toInt = 24 := rfl
  have e1 : (24 * q).toInt = 24 * q.toInt := by rw [i_mul (by rw [e8]; omega) (by rw [e8]; omega), e8]
  rw [i_add (by rw [e1]; omega) (by rw [e1]; omega), e1]
theorem ix16 {k i : Int32} (hk : 0 ≤ k.toInt ∧ k.toInt < 32) (hi : 0 ≤ i.toInt ∧ i.toInt < 16) : (16 * k + i).toInt = 16 * k.toInt + i.toInt := by
  have e8 : (16 : Int32).toInt = 16 := rfl
  have e1 : (16 * k).toInt = 16 * k.toInt := by rw [i_mul (by rw [e8]; omega) (by rw [e8]; omega), e8]
  rw [i_add (by rw [e1]; omega) (by rw [e1]; omega), e1]
theorem clampI {x : Int32} (h : 0 ≤ x.toInt) : (x.toNatClampNeg : Int) = x.toInt := by
  show (x.toInt.toNat : Int) = x.toInt
  exact Int.toNat_of_nonneg h
theorem bt_nz {f : Nat → Int64} {n x : Int32} (h : ∀ j : Nat, (j : Int) < n.toInt → ¬ f j = 0) (h0 : 0 ≤ x.toInt) (h1 : x.toInt < n.toInt) : ¬ f x.toNatClampNeg = 0 := h _ (by rw [clampI h0]; exact h1)
theorem i2l1_nz {x : Int32} (h : 0 ≤ x.toInt) : ¬ x.toInt64 + 1 = 0 := by
  have h1 := i2l_ti x
  have h2 := i_rg x
  have e1 : (1 : Int64).toInt = 1 := rfl
  refine l_nz ?_
  rw [l_add (by rw [e1]; omega) (by rw [e1]; omega), e1]
  omega
theorem dn3 {x : Int32} {n : Nat} (t : 0 ≤ x.toInt) (hm : (x.toInt + 1 : Int).toNat < n + 1) : ((x + (-1)).toInt + 1 : Int).toNat < n := by
  have q := dec_ok (x := x) (by omega)
  omega
theorem dn4 {x : Int32} {b : Int} (t : 0 ≤ x.toInt) (h : x.toInt ≤ b) : (x + (-1)).toInt ≤ b := by
  have q := dec_ok (x := x) (by omega)
  omega
theorem shr31 {n a : Int32} (h0 : 0 ≤ a.toInt) (h1 : a.toInt ≤ 30) (h : 0 < (n >>> ((a + 1) &&& 31)).toInt) : a.toInt < 30 := by
  rcases Int.lt_or_le a.toInt 30 with q | q
  · exact q
  · exfalso
    have e : a = 30 := Int32.toInt_inj.mp (by rw [show (30 : Int32).toInt = 30 from rfl]; omega)
    subst e
    rw [pk_shr n (((30 : Int32) + 1) &&& 31) 31 (by decide)] at h
    have hr := i_rg n
    rw [Int.shiftRight_eq_div_pow] at h
    omega
/-- what is left of a division is less, in size -/
theorem rem_ti (x y : Int64) (h : ¬ y = 0) : (x - x / y * y).toInt = x.toInt.tmod y.toInt := by
  have h0 : ¬ y.toInt = 0 := fun e => h (Int64.toInt_inj.mp e)
  have e1 : x - x / y * y = x % y := by
    apply Int64.toInt_inj.mp
    rw [Int64.toInt_mod, Int64.toInt_sub, Int64.toInt_mul, Int64.toInt_div]
    have hx := l_rg x
    have hb := Int.tmod_add_tdiv_mul x.toInt y.toInt
    have key : Int.bmod (x.toInt - Int.bmod (Int.bmod (x.toInt.tdiv y.toInt) (2 ^ 64) * y.toInt) (2 ^ 64)) (2 ^ 64) = Int.bmod (x.toInt - x.toInt.tdiv y.toInt * y.toInt) (2 ^ 64) := by
      simp
    rw [key]
    have e2 : x.toInt - x.toInt.tdiv y.toInt * y.toInt = x.toInt.tmod y.toInt := by omega
    rw [e2]
    have hl : x.toInt.tmod y.toInt ≤ 9223372036854775807 ∧ -9223372036854775808 ≤ x.toInt.tmod y.toInt := by
      have a1 : (x.toInt.tmod y.toInt).natAbs ≤ x.toInt.natAbs := by
        rw [Int.natAbs_tmod]
        exact Nat.mod_le _ _
      have a2 := Int.tmod_nonneg (a := x.toInt) y.toInt
      rcases Int.le_total 0 x.toInt with q | q
      · have := a2 q
        omega
      · have := Int.tmod_nonneg (a := -x.toInt) y.toInt (by omega)
        rw [Int.neg_tmod] at this
        omega
    exact Int.bmod_eq_of_le (by simp; omega) (by simp; omega)
  rw [e1, Int64.toInt_mod]
theorem rem_lt (x y : Int64) (h : ¬ y = 0) : (x - x / y * y).toInt.natAbs < y.toInt.natAbs := by
  rw [rem_ti x y h, Int.natAbs_tmod]
  exact Nat.mod_lt _ (by have : ¬ y.toInt = 0 := fun e => h (Int64.toInt_inj.mp e); omega)
