/-! 05: the cells by kind; facts of ints -/
theorem lt98 {i : Nat} (h : i < 98) : i < nB true := h
theorem hk_RB {E : Nat → ClassId} {ad : Nat → Nat} {u : Nat → Int32} {w : Nat → Int64} : cfB true E ad 0 u w = .inr (5, [.ref (ad 1), .ref (ad 2), .ref (ad 3), .ref (ad 4), .ref (ad 5), .ref (ad 7)]) := rfl
theorem hk_Qs {E : Nat → ClassId} {ad : Nat → Nat} {u : Nat → Int32} {w : Nat → Int64} : cfB true E ad 1 u w = .inl (E 4, 8, .inr (.inr (.inr (.inr (fun j => some (ad (10 + j))))))) := rfl
theorem hk_Ct {E : Nat → ClassId} {ad : Nat → Nat} {u : Nat → Int32} {w : Nat → Int64} : cfB true E ad 5 u w = .inr (0, [.ref (ad 6), .long (w 1), .int (u 2)]) := rfl
theorem hk_Df {E : Nat → ClassId} {ad : Nat → Nat} {u : Nat → Int32} {w : Nat → Int64} : cfB true E ad 6 u w = .inl (E 1, 8, .inr (.inl w)) := rfl
theorem hk_Mx {E : Nat → ClassId} {ad : Nat → Nat} {u : Nat → Int32} {w : Nat → Int64} : cfB true E ad 7 u w = .inr (2, [.ref (ad 8), .ref (ad 9), .int (u 2), .int (u 3), .int (u 4), .int (u 5), .int (u 6)]) := rfl
theorem hk_Md {E : Nat → ClassId} {ad : Nat → Nat} {u : Nat → Int32} {w : Nat → Int64} : cfB true E ad 8 u w = .inl (E 0, 16, .inl u) := rfl
theorem hk_Mf {E : Nat → ClassId} {ad : Nat → Nat} {u : Nat → Int32} {w : Nat → Int64} : cfB true E ad 9 u w = .inl (E 2, 16, .inl u) := rfl
theorem hk_Fr {i : Nat} {E : Nat → ClassId} {ad : Nat → Nat} {u : Nat → Int32} {w : Nat → Int64} (h : 2 ≤ i ∧ i < 5) : cfB true E ad i u w = .inr (1, [.long (w 0), .long (w 1)]) := by
  show celK E ad i u w = _
  unfold celK
  rw [if_neg (by omega), if_neg (by omega), if_pos (by omega)]
theorem hk_Q {i : Nat} {E : Nat → ClassId} {ad : Nat → Nat} {u : Nat → Int32} {w : Nat → Int64} (h : 10 ≤ i ∧ i < 18) : cfB true E ad i u w = .inr (3, [.ref (ad (i + 8)), .ref (ad (i + 16))]) := by
  show celK E ad i u w = _
  unfold celK
  rw [if_neg (by omega), if_neg (by omega), if_neg (by omega), if_neg (by omega), if_neg (by omega), if_neg (by omega), if_neg (by omega), if_neg (by omega), if_pos (by omega)]
theorem hk_Gr {i : Nat} {E : Nat → ClassId} {ad : Nat → Nat} {u : Nat → Int32} {w : Nat → Int64} (h : 18 ≤ i ∧ i < 26) : cfB true E ad i u w = .inl (E 0, 24, .inl u) := by
  show celK E ad i u w = _
  unfold celK
  rw [if_neg (by omega), if_neg (by omega), if_neg (by omega), if_neg (by omega), if_neg (by omega), if_neg (by omega), if_neg (by omega), if_neg (by omega), if_neg (by omega), if_pos (by omega)]
theorem hk_Rs {i : Nat} {E : Nat → ClassId} {ad : Nat → Nat} {u : Nat → Int32} {w : Nat → Int64} (h : 26 ≤ i ∧ i < 34) : cfB true E ad i u w = .inl (E 3, 4, .inr (.inr (.inr (.inr (fun j => some (ad (34 + 4 * (i - 26) + j))))))) := by
  show celK E ad i u w = _
  unfold celK
  rw [if_neg (by omega), if_neg (by omega), if_neg (by omega), if_neg (by omega), if_neg (by omega), if_neg (by omega), if_neg (by omega), if_neg (by omega), if_neg (by omega), if_neg (by omega), if_pos (by omega)]
theorem hk_Row {i : Nat} {E : Nat → ClassId} {ad : Nat → Nat} {u : Nat → Int32} {w : Nat → Int64} (h : 34 ≤ i ∧ i < 66) : cfB true E ad i u w = .inr (4, [.ref (ad (i + 32)), .int (u 1), .int (u 2)]) := by
  show celK E ad i u w = _
  unfold celK
  rw [if_neg (by omega), if_neg (by omega), if_neg (by omega), if_neg (by omega), if_neg (by omega), if_neg (by omega), if_neg (by omega), if_neg (by omega), if_neg (by omega), if_neg (by omega), if_neg (by omega), if_pos (by omega)]
theorem hk_Dc {i : Nat} {E : Nat → ClassId} {ad : Nat → Nat} {u : Nat → Int32} {w : Nat → Int64} (h : 66 ≤ i ∧ i < 98) : cfB true E ad i u w = .inl (E 0, 16, .inl u) := by
  show celK E ad i u w = _
  unfold celK
  rw [if_neg (by omega), if_neg (by omega), if_neg (by omega), if_neg (by omega), if_neg (by omega), if_neg (by omega), if_neg (by omega), if_neg (by omega), if_neg (by omega), if_neg (by omega), if_neg (by omega), if_neg (by omega)]
theorem hm_MO {E : Nat → ClassId} {ad : Nat → Nat} {u : Nat → Int32} {w : Nat → Int64} : cfB false E ad 0 u w = .inr (6, [.ref (ad 1), .ref (ad 2), .ref (ad 3), .ref (ad 4), .long (w 4), .long (w 5), .long (w 6), .long (w 7), .ref (ad 5), .ref (ad 6), .int (u 10), .ref (ad 7), .ref (ad 8), .int (u 13)]) := rfl
theorem hm_mg {E : Nat → ClassId} {ad : Nat → Nat} {u : Nat → Int32} {w : Nat → Int64} : cfB false E ad 1 u w = .inl (E 0, 192, .inl u) := rfl
theorem hm_mr {E : Nat → ClassId} {ad : Nat → Nat} {u : Nat → Int32} {w : Nat → Int64} : cfB false E ad 2 u w = .inl (E 0, 512, .inl u) := rfl
theorem hm_ms {E : Nat → ClassId} {ad : Nat → Nat} {u : Nat → Int32} {w : Nat → Int64} : cfB false E ad 3 u w = .inl (E 0, 32, .inl u) := rfl
theorem hm_mt {E : Nat → ClassId} {ad : Nat → Nat} {u : Nat → Int32} {w : Nat → Int64} : cfB false E ad 4 u w = .inl (E 2, 32, .inl u) := rfl
theorem hm_mp {E : Nat → ClassId} {ad : Nat → Nat} {u : Nat → Int32} {w : Nat → Int64} : cfB false E ad 5 u w = .inl (E 1, 8, .inr (.inl w)) := rfl
theorem hm_mb {E : Nat → ClassId} {ad : Nat → Nat} {u : Nat → Int32} {w : Nat → Int64} : cfB false E ad 6 u w = .inl (E 1, 8, .inr (.inl w)) := rfl
theorem hm_ml {E : Nat → ClassId} {ad : Nat → Nat} {u : Nat → Int32} {w : Nat → Int64} : cfB false E ad 7 u w = .inl (E 0, 16, .inl u) := rfl
theorem hm_my {E : Nat → ClassId} {ad : Nat → Nat} {u : Nat → Int32} {w : Nat → Int64} : cfB false E ad 8 u w = .inl (E 2, 16, .inl u) := rfl
theorem i_lt {x y : Int32} (h : x < y) : x.toInt < y.toInt := Int32.lt_iff_toInt_lt.mp h
theorem i_nlt {x y : Int32} (h : ¬ x < y) : y.toInt ≤ x.toInt := Int.not_lt.mp (fun z => h (Int32.lt_iff_toInt_lt.mpr z))
theorem i_le {x y : Int32} (h : x ≤ y) : x.toInt ≤ y.toInt := Int32.le_iff_toInt_le.mp h
theorem i_nle {x y : Int32} (h : ¬ x ≤ y) : y.toInt < x.toInt := Int.not_le.mp (fun z => h (Int32.le_iff_toInt_le.mpr z))
theorem i_eq {x y : Int32} (h : x = y) : x.toInt = y.toInt := congrArg Int32.toInt h
theorem i_ne {x y : Int32} (h : ¬ x = y) : ¬ x.toInt = y.toInt := fun z => h (Int32.toInt_inj.mp z)
theorem l_lt {x y : Int64} (h : x < y) : x.toInt < y.toInt := Int64.lt_iff_toInt_lt.mp h
theorem l_nlt {x y : Int64} (h : ¬ x < y) : y.toInt ≤ x.toInt := Int.not_lt.mp (fun z => h (Int64.lt_iff_toInt_lt.mpr z))
theorem l_le {x y : Int64} (h : x ≤ y) : x.toInt ≤ y.toInt := Int64.le_iff_toInt_le.mp h
theorem l_nle {x y : Int64} (h : ¬ x ≤ y) : y.toInt < x.toInt := Int.not_le.mp (fun z => h (Int64.le_iff_toInt_le.mpr z))
theorem l_eq {x y : Int64} (h : x = y) : x.toInt = y.toInt := congrArg Int64.toInt h
theorem l_ne {x y : Int64} (h : ¬ x = y) : ¬ x.toInt = y.toInt := fun z => h (Int64.toInt_inj.mp z)
theorem i_rg (x : Int32) : -2147483648 ≤ x.toInt ∧ x.toInt < 2147483648 := ⟨x.le_toInt, x.toInt_lt⟩
theorem l_rg (x : Int64) : -9223372036854775808 ≤ x.toInt ∧ x.toInt < 9223372036854775808 := ⟨x.le_toInt, x.toInt_lt⟩
theorem i_add {x y : Int32} (h : -2147483648 ≤ x.toInt + y.toInt) (h2 : x.toInt + y.toInt < 2147483648) : (x + y).toInt = x.toInt + y.toInt := by
  rw [Int32.toInt_add]
  exact Int.bmod_eq_of_le (by simpa using h) (by simpa using h2)
theorem i_sub {x y : Int32} (h : -2147483648 ≤ x.toInt - y.toInt) (h2 : x.toInt - y.toInt < 2147483648) : (x - y).toInt = x.toInt - y.toInt := by
  rw [Int32.toInt_sub]
  exact Int.bmod_eq_of_le (by simpa using h) (by simpa using h2)
theorem i_mul {x y : Int32} (h : -2147483648 ≤ x.toInt * y.toInt) (h2 : x.toInt * y.toInt < 2147483648) : (x * y).toInt = x.toInt * y.toInt := by
  rw [Int32.toInt_mul]
  exact Int.bmod_eq_of_le (by simpa using h) (by simpa using h2)
theorem l_add {x y : Int64} (h : -9223372036854775808 ≤ x.toInt + y.toInt) (h2 : x.toInt + y.toInt < 9223372036854775808) : (x + y).toInt = x.toInt + y.toInt := by
  rw [Int64.toInt_add]
  exact Int.bmod_eq_of_le (by simpa using h) (by simpa using h2)
theorem l_sub {x y : Int64} (h : -9223372036854775808 ≤ x.toInt - y.toInt) (h2 : x.toInt - y.toInt < 9223372036854775808) : (x - y).toInt = x.toInt - y.toInt := by
  rw [Int64.toInt_sub]
  exact Int.bmod_eq_of_le (by simpa using h) (by simpa using h2)
theorem l_mul {x y : Int64} (h : -9223372036854775808 ≤ x.toInt * y.toInt) (h2 : x.toInt * y.toInt < 9223372036854775808) : (x * y).toInt = x.toInt * y.toInt := by
  rw [Int64.toInt_mul]
  exact Int.bmod_eq_of_le (by simpa using h) (by simpa using h2)
theorem inc_sp (x : Int32) : -2147483648 ≤ x.toInt ∧ x.toInt < 2147483648 ∧ ((x.toInt < 2147483647 ∧ (x + 1).toInt = x.toInt + 1) ∨ (x.toInt = 2147483647 ∧ (x + 1).toInt = -2147483648)) := by
  have h := i_rg x
  refine ⟨h.1, h.2, ?_⟩
  have e1 : (1 : Int32).toInt = 1 := rfl
  rcases Int.lt_or_le x.toInt 2147483647 with q | q
  · exact Or.inl ⟨q, i_add (by rw [e1]; omega) (by rw [e1]; omega)⟩
  · have e : x.toInt = 2147483647 := by omega
    refine Or.inr ⟨e, ?_⟩
    rw [Int32.toInt_add, e]
    rfl
theorem dec_sp (x : Int32) : -2147483648 ≤ x.toInt ∧ x.toInt < 2147483648 ∧ ((-2147483648 < x.toInt ∧ (x - 1).toInt = x.toInt - 1) ∨ (x.toInt = -2147483648 ∧ (x - 1).toInt = 2147483647)) := by
  have h := i_rg x
  refine ⟨h.1, h.2, ?_⟩
  have e1 : (1 : Int32).toInt = 1 := rfl
  rcases Int.lt_or_le (-2147483648) x.toInt with q | q
  · exact Or.inl ⟨q, i_sub (by rw [e1]; omega) (by rw [e1]; omega)⟩
  · have e : x.toInt = -2147483648 := by omega
    refine Or.inr ⟨e, ?_⟩
    rw [Int32.toInt_sub, e]
    rfl
theorem dec_sp2 (x : Int32) : -2147483648 ≤ x.toInt ∧ x.toInt < 2147483648 ∧ ((-2147483648 < x.toInt ∧ (x + (-1)).toInt = x.toInt - 1) ∨ (x.toInt = -2147483648 ∧ (x + (-1)).toInt = 2147483647)) := by
  have h := i_rg x
  refine ⟨h.1, h.2, ?_⟩
  have e1 : (-1 : Int32).toInt = -1 := rfl
  rcases Int.lt_or_le (-2147483648) x.toInt with q | q
  · exact Or.inl ⟨q, by rw [i_add (by rw [e1]; omega) (by rw [e1]; omega), e1]; omega⟩
  · have e : x.toInt = -2147483648 := by omega
    refine Or.inr ⟨e, ?_⟩
    rw [Int32.toInt_add, e]
    rfl
theorem clampN {x : Int32} {n : Nat} (h0 : 0 ≤ x.toInt) (h1 : x.toInt < n) : x.toNatClampNeg < n := by
  have : (x.toNatClampNeg : Int) = x.toInt := by
    show (x.toInt.toNat : Int) = x.toInt
    exact Int.toNat_of_nonneg h0
  omega
theorem okK_ui {M : Mem} {i k : Nat} {v : Int32} (h : okK M) (hk : (k ≠ 2 ∧ k ≠ 1) ∨ (i < 34 ∨ 66 ≤ i) ∨ (k = 2 ∧ (v = 0 ∨ v = 1)) ∨ (k = 1 ∧ 0 ≤ v.toInt ∧ v.toInt ≤ 16)) : okK (ui M i k v) := by
  intro j h1 h2
  by_cases hj : j = i
  · subst hj
    rw [ui_same]
    unfold upd
    have h3 := h j h1 h2
    rcases hk with hk | hk | hk | hk
    · rw [if_neg (Ne.symm hk.1), if_neg (Ne.symm hk.2)]
      exact h3
    · exact absurd hk (by omega)
    · rw [if_pos hk.1.symm, if_neg (by omega)]
      exact ⟨hk.2, h3.2⟩
    · rw [if_neg (by omega), if_pos hk.1.symm]
      exact ⟨h3.1, hk.2⟩
  · rw [ui_ne hj]
    exact h j h1 h2
theorem l_nz {x : Int64} (h : 1 ≤ x.toInt) : ¬ x = 0 := fun e => by rw [e] at h; exact absurd h (by decide)
theorem i2l_ti (x : Int32) : x.toInt64.toInt = x.toInt := Int32.toInt_toInt64 x
theorem i2l_nz {x : Int32} (h : 1 ≤ x.toInt) : ¬ x.toInt64 = 0 := l_nz (by rw [i2l_ti]; exact h)
theorem l_inc_nz {x : Int64} (h : 0 < x.toInt) : ¬ x + 1 = 0 := by
  intro e
  have h1 := congrArg Int64.toInt e
  rw [Int64.toInt_add] at h1
  have e1 : (1 : Int64).toInt = 1 := rfl
  have e0 : (0 : Int64).toInt = 0 := rfl
  rw [e1, e0] at h1
  have hr := l_rg x
  rcases Int.lt_or_le x.toInt 9223372036854775807 with q | q
  · rw [Int.bmod_eq_of_le (by simp; omega) (by simp; omega)] at h1
    omega
  · have e2 : x.toInt = 9223372036854775807 := by omega
    rw [e2] at h1
    exact absurd h1 (by decide)
theorem ne_of {x y : Int64} (e : x = y) (h : ¬ y = 0) : ¬ x = 0 := by rw [e]; exact h
theorem dec_ok {x : Int32} (h : -2147483648 < x.toInt) : (x + (-1)).toInt = x.toInt - 1 := by
  have e := dec_sp2 x
  rcases e.2.2 with q | q
  · exact q.2
  · exact absurd q.1 (by omega)
theorem dn1 {x : Int32} {n : Nat} (t : 1 ≤ x.toInt) (hm : (x.toInt : Int).toNat < n + 1) : ((x + (-1)).toInt : Int).toNat < n := by
  have q := dec_ok (x := x) (by omega)
  omega
theorem dn2 {x : Int32} {b : Int} (t : 1 ≤ x.toInt) (h : x.toInt ≤ b) : (x + (-1)).toInt ≤ b := by
  have q := dec_ok (x := x) (by omega)
  omega
