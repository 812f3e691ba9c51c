/-! 87c: signs -/
theorem bitm : ∀ m, m < 256 → ∀ j, j < 8 → ((((Int32.ofNat m) >>> (Int32.ofNat j &&& 31)) &&& 1 = 1) ↔ (m / 2 ^ j % 2 = 1)) := by decide +kernel
theorem shl5 : ∀ s, s < 9 → ((1 : Int32) <<< (Int32.ofNat s &&& 31)).toInt = ((2 ^ s : Nat) : Int) := by decide
theorem shl6 : ∀ s, s < 9 → ((1 : Int64) <<< ((Int32.ofNat s).toInt64 &&& 63)).toInt = ((2 ^ s : Nat) : Int) := by decide
theorem ofn_ti : ∀ m, m < 257 → (Int32.ofNat m).toInt = (m : Int) := by decide +kernel
theorem sar63 (a : Int64) : (a >>> ((63 : Int32).toInt64 &&& 63)).toInt = a.toInt / 9223372036854775808 := by
  show ((a >>> ((63 : Int32).toInt64 &&& 63)).toBitVec).toInt = _
  rw [Int64.toBitVec_shiftRight]
  have e : (((63 : Int32).toInt64 &&& 63).toBitVec.smod 64) = 63#64 := by decide
  rw [e]
  show (a.toBitVec.sshiftRight 63).toInt = _
  rw [BitVec.toInt_sshiftRight, Int.shiftRight_eq_div_pow]
  rfl
theorem sgn_p {a : Int64} (h : 0 < a.toInt) : f_J13_signum_95d88 a = 1 := by
  unfold f_J13_signum_95d88
  have r := l_rg a
  have e1 : a >>> ((63 : Int32).toInt64 &&& 63) = 0 := l_ext (by rw [sar63]; show a.toInt / 9223372036854775808 = 0; omega)
  have en : (-a).toInt = -a.toInt := l_neg (by omega)
  have e2 : ((-a).toUInt64 >>> ((63 : Int32).toInt64.toUInt64 &&& Int64.toUInt64 63)).toNat = 1 := by
    rw [UInt64.toNat_shiftRight]
    have e3 : ((63 : Int32).toInt64.toUInt64 &&& Int64.toUInt64 63).toNat % 64 = 63 := by decide
    rw [e3, Nat.shiftRight_eq_div_pow]
    have e4 : (-a).toUInt64.toNat = (-a).toBitVec.toNat := rfl
    have e5 : (-a).toBitVec.toInt = (-a).toInt := rfl
    rw [BitVec.toInt_eq_toNat_cond] at e5
    have e6 := (-a).toBitVec.isLt
    rw [e4]
    split at e5 <;> omega
  have e7 : ((-a).toUInt64 >>> ((63 : Int32).toInt64.toUInt64 &&& Int64.toUInt64 63)) = 1 := UInt64.toNat_inj.mp (by rw [e2]; rfl)
  rw [e1, e7]
  decide
theorem sgn_n {a : Int64} (h : a.toInt < 0) : f_J13_signum_95d88 a = -1 := by
  unfold f_J13_signum_95d88
  have r := l_rg a
  have e1 : a >>> ((63 : Int32).toInt64 &&& 63) = -1 := l_ext (by rw [sar63]; show a.toInt / 9223372036854775808 = -1; omega)
  rw [e1, Int64.neg_one_or]
  decide
theorem sgn_0 {a : Int64} (h : a.toInt = 0) : f_J13_signum_95d88 a = 0 := by
  have e : a = 0 := l_ext h
  subst e
  decide
def sl (x : Nat → Int) : Nat → Nat → Nat → Int
  | _, 0, _ => 0
  | i, r + 1, m => (if m % 2 = 1 then -x i else x i) + sl x (i + 1) r (m / 2)
theorem cnt_eo (P : Nat → Bool) : ∀ n, cnt P (2 * n) = cnt (fun m => P (2 * m)) n + cnt (fun m => P (2 * m + 1)) n
  | 0 => rfl
  | n + 1 => by
    rw [show 2 * (n + 1) = 2 * n + 1 + 1 by omega, cnt, cnt, cnt_eo P n, cnt, cnt]
    omega
def Pw (x : Nat → Int) (T a : Int) (i r m : Nat) : Bool := decide (T ≤ ((a + sl x i r m).natAbs : Int))
def Wy (x : Nat → Int) (T a : Int) (i r : Nat) : Nat := cnt (Pw x T a i r) (2 ^ r)
theorem Wy_0 (x : Nat → Int) (T a : Int) (i : Nat) : Wy x T a i 0 = if T ≤ (a.natAbs : Int) then 1 else 0 := by
  unfold Wy
  show 0 + (if Pw x T a i 0 0 = true then 1 else 0) = _
  unfold Pw
  have e : a + sl x i 0 0 = a := by rw [sl, Int.add_zero]
  rw [e]
  by_cases c : T ≤ (a.natAbs : Int)
  · rw [if_pos c, if_pos (by simp; exact c)]
  · rw [if_neg c, if_neg (by simp; omega)]
theorem Wy_s (x : Nat → Int) (T a : Int) (i r : Nat) : Wy x T a i (r + 1) = Wy x T (a + x i) (i + 1) r + Wy x T (a - x i) (i + 1) r := by
  unfold Wy
  rw [Nat.pow_succ, Nat.mul_comm, cnt_eo]
  congr 1
  · refine cnt_congr _ (fun m _ => ?_)
    show Pw x T a i (r + 1) (2 * m) = Pw x T (a + x i) (i + 1) r m
    unfold Pw
    have e : a + sl x i (r + 1) (2 * m) = a + x i + sl x (i + 1) r m := by
      rw [sl, if_neg (by omega), show 2 * m / 2 = m by omega]; omega
    rw [e]
  · refine cnt_congr _ (fun m _ => ?_)
    show Pw x T a i (r + 1) (2 * m + 1) = Pw x T (a - x i) (i + 1) r m
    unfold Pw
    have e : a + sl x i (r + 1) (2 * m + 1) = a - x i + sl x (i + 1) r m := by
      rw [sl, if_pos (by omega), show (2 * m + 1) / 2 = m by omega]; omega
    rw [e]
theorem p2_le {r : Nat} (h : r ≤ 8) : 2 ^ r ≤ 256 := by
  have : 2 ^ r ≤ 2 ^ 8 := Nat.pow_le_pow_right (by omega) h
  omega
theorem Wy_le (x : Nat → Int) (T a : Int) (i : Nat) {r : Nat} (h : r ≤ 8) : Wy x T a i r ≤ 256 := Nat.le_trans (cnt_le _ _) (p2_le h)
theorem lv8 : 8 * (16 * LL) + 16 * LL < 9223372036854775808 := by decide
theorem leaf (x : Nat → Int) (i : Nat) {a4 a5 : Int64} (h : -9223372036854775808 < a4.toInt) : (if (if 0 < a4 then a4 else -a4) < a5 then (0 : Int64) else 1).toInt = (Wy x a5.toInt a4.toInt i 0 : Nat) := by
  have e := l_abs h
  generalize (if 0 < a4 then a4 else -a4) = y at *
  rw [Wy_0]
  by_cases c : y < a5
  · have t := l_lt c
    rw [if_pos c, if_neg (by omega)]; rfl
  · have t := l_nlt c
    rw [if_neg c, if_pos (by omega)]; rfl
theorem step16 {a x : Int} {i : Nat} (ha : -((i : Int) * (16 * LL)) ≤ a ∧ a ≤ (i : Int) * (16 * LL)) (hx : -(16 * LL) ≤ x ∧ x ≤ 16 * LL) : (-(((i + 1 : Nat) : Int) * (16 * LL)) ≤ a + x ∧ a + x ≤ ((i + 1 : Nat) : Int) * (16 * LL)) ∧ (-(((i + 1 : Nat) : Int) * (16 * LL)) ≤ a - x ∧ a - x ≤ ((i + 1 : Nat) : Int) * (16 * LL)) := by
  have e : ((i + 1 : Nat) : Int) * (16 * LL) = (i : Int) * (16 * LL) + 16 * LL := by push_cast; rw [Int.add_mul, Int.one_mul]
  rw [e]
  omega
theorem up8 {i : Nat} (h : i ≤ 8) : (i : Int) * (16 * LL) ≤ 8 * (16 * LL) := Int.mul_le_mul_of_nonneg_right (by omega) (by decide)
theorem kWb {M : Mem} {x : Nat → Int} {s : Nat} (hs : s ≤ 8) (hx : ∀ i, i < s → (M.2 6 i).toInt = x i) (hb : ∀ i, i < s → -(16 * LL) ≤ x i ∧ x i ≤ 16 * LL) {a2 : Int32} (h2 : a2.toInt = s) {a5 : Int64} : ∀ (r n i : Nat) (a3 : Int32) (a4 : Int64), a3.toInt = i → i + r = s → (-((i : Int) * (16 * LL)) ≤ a4.toInt ∧ a4.toInt ≤ (i : Int) * (16 * LL)) → r < n → (f_X0_waysBehind_r n M a2 a3 a4 a5).toInt = (Wy x a5.toInt a4.toInt i r : Nat) := by
  intro r
  induction r with
  | zero =>
    intro n i a3 a4 h3 hi ha hn
    obtain ⟨n, rfl⟩ : ∃ y, n = y + 1 := ⟨n - 1, by omega⟩
    have u := up8 (i := i) (by omega)
    have v := lv8
    rw [f_X0_waysBehind_r, if_neg (show ¬ a3 < 0 from fun z => by have t : a3.toInt < 0 := i_lt z; omega), if_pos (show a2 ≤ a3 from Int32.le_iff_toInt_le.mpr (by omega))]
    simp only [bnd_eq]
    exact leaf x i (by have := LL_pos; omega)
  | succ r ih =>
    intro n i a3 a4 h3 hi ha hn
    obtain ⟨n, rfl⟩ : ∃ y, n = y + 1 := ⟨n - 1, by omega⟩
    have u := up8 (i := i + 1) (by omega)
    have v := lv8
    have hLp := LL_pos
    rw [f_X0_waysBehind_r, if_neg (show ¬ a3 < 0 from fun z => by have t : a3.toInt < 0 := i_lt z; omega), if_neg (show ¬ a2 ≤ a3 from fun z => by have t := i_le z; omega), if_pos (show a3 < 8 from Int32.lt_iff_toInt_lt.mpr (by show a3.toInt < 8; omega))]
    simp only [bnd_eq]
    have ec : a3.toNatClampNeg = i := by have := clampI (x := a3) (by omega); omega
    have qi := inc_sp a3
    rw [ec]
    have hxi := hx i (by omega)
    have st := step16 (i := i) ha (hb i (by omega))
    have e1 : (a4 + M.2 6 i).toInt = a4.toInt + x i := by rw [l_add (by rw [hxi]; omega) (by rw [hxi]; omega), hxi]
    have e2 : (a4 - M.2 6 i).toInt = a4.toInt - x i := by rw [l_sub (by rw [hxi]; omega) (by rw [hxi]; omega), hxi]
    have r1 := ih n (i + 1) (a3 + 1) (a4 + M.2 6 i) (by omega) (by omega) (by rw [e1]; exact st.1) (by omega)
    have r2 := ih n (i + 1) (a3 + 1) (a4 - M.2 6 i) (by omega) (by omega) (by rw [e2]; exact st.2) (by omega)
    rw [e1] at r1
    rw [e2] at r2
    have w1 := Wy_le x a5.toInt (a4.toInt + x i) (i + 1) (r := r) (by omega)
    have w2 := Wy_le x a5.toInt (a4.toInt - x i) (i + 1) (r := r) (by omega)
    rw [Wy_s, l_add (by omega) (by omega), r1, r2]
    omega
theorem sm16 {x : Nat → Int} {s : Nat} (hb : ∀ i, i < s → -(16 * LL) ≤ x i ∧ x i ≤ 16 * LL) : ∀ i, i ≤ s → -((i : Int) * (16 * LL)) ≤ sm x i ∧ sm x i ≤ (i : Int) * (16 * LL)
  | 0, _ => by rw [sm]; simp
  | i + 1, h => (step16 (sm16 hb i (by omega)) (hb i (by omega))).1
theorem kWf {M : Mem} {x : Nat → Int} {s : Nat} (hs : s ≤ 8) (hx : ∀ i, i < s → (M.2 6 i).toInt = x i) (hb : ∀ i, i < s → -(16 * LL) ≤ x i ∧ x i ≤ 16 * LL) (h2 : (M.1 5 2).toInt = s) : ∀ (r n i : Nat) (v3 : Int32) (v1 : Int64), v3.toInt = i → i + r = s → v1.toInt = sm x i → r < n → (f_X0_waysAsFarApart_4 n M v1 v3).toInt = (Wy x ((sm x s).natAbs : Int) 0 0 s : Nat) := by
  intro r
  induction r with
  | zero =>
    intro n i v3 v1 h3 hi hv hn
    obtain ⟨n, rfl⟩ : ∃ y, n = y + 1 := ⟨n - 1, by omega⟩
    have z : i = s := by omega
    subst z
    have u := up8 hs
    have v := lv8
    have b := sm16 hb i (Nat.le_refl _)
    rw [f_X0_waysAsFarApart_4, if_pos (show M.1 5 2 ≤ v3 from Int32.le_iff_toInt_le.mpr (by omega))]
    simp only [bnd_eq]
    have e := l_abs (x := v1) (by have := LL_pos; omega)
    generalize (if 0 < v1 then v1 else -v1) = y at *
    have R := kWb (a5 := y) hs hx hb h2 i 9 0 0 0 rfl (by omega) (by constructor <;> decide) (by omega)
    have e2 : y.toInt = ((sm x i).natAbs : Int) := by rw [e, hv]
    rw [e2] at R
    exact R
  | succ r ih =>
    intro n i v3 v1 h3 hi hv hn
    obtain ⟨n, rfl⟩ : ∃ y, n = y + 1 := ⟨n - 1, by omega⟩
    have u := up8 (i := i + 1) (by omega)
    have v := lv8
    have hLp := LL_pos
    have b := sm16 hb (i + 1) (by omega)
    rw [f_X0_waysAsFarApart_4, if_neg (show ¬ M.1 5 2 ≤ v3 from fun z => by have t := i_le z; omega), if_neg (show ¬ (8 : Int32) ≤ v3 from fun z => by have t : 8 ≤ v3.toInt := i_le z; omega)]
    simp only [bnd_eq]
    have ec : v3.toNatClampNeg = i := by have := clampI (x := v3) (by omega); omega
    have qi := inc_sp v3
    rw [ec]
    have hxi := hx i (by omega)
    have es : sm x (i + 1) = sm x i + x i := rfl
    refine ih n (i + 1) (v3 + 1) _ (by omega) (by omega) ?_ (by omega)
    rw [l_add (by rw [hxi, hv]; omega) (by rw [hxi, hv]; omega), hxi, hv]; rfl
