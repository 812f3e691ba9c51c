/-! 77: counts -/
def cnt (P : Nat → Bool) : Nat → Nat
  | 0 => 0
  | k + 1 => cnt P k + (if P k then 1 else 0)
theorem cnt_le (P : Nat → Bool) : ∀ k, cnt P k ≤ k
  | 0 => Nat.le_refl _
  | k + 1 => by
    rw [cnt]
    have := cnt_le P k
    split <;> omega
theorem cnt_congr {P Q : Nat → Bool} : ∀ k, (∀ i, i < k → P i = Q i) → cnt P k = cnt Q k
  | 0, _ => rfl
  | k + 1, h => by rw [cnt, cnt, cnt_congr k (fun i hi => h i (by omega)), h k (by omega)]
theorem cnt_mono (P : Nat → Bool) {a b : Nat} (h : a ≤ b) : cnt P a ≤ cnt P b := by
  induction b with
  | zero => have : a = 0 := by omega
            subst this; exact Nat.le_refl _
  | succ b ih =>
    rcases Nat.eq_or_lt_of_le h with z | z
    · subst z; exact Nat.le_refl _
    · have := ih (by omega)
      rw [cnt]
      omega
def Rg (S : Ab) (q : Nat) : Nat := cnt (fun d => decide (1 ≤ S.1 q d)) 24
def Gw (S : Ab) (q : Nat) (v : Int) : Nat := cnt (fun d => decide (S.1 q d = v)) 24
section CN
variable {S : Ab} {M : Mem}
theorem kGood_4 (hK : AbK S M) {q : Nat} (hq : q < 8) : ∀ (k : Nat) (w v : Int32) (i : Nat), v.toInt = i → i ≤ 24 → w.toInt = cnt (fun d => decide (1 ≤ S.1 q d)) i → 24 - i < k → (f_X6_goodOnes_4 k M (10 + q) w v).toInt = Rg S q
  | 0, _, _, _, _, _, _, h => absurd h (by omega)
  | k + 1, w, v, i, hv, hi, hw, hk => by
    rw [f_X6_goodOnes_4]
    rcases Nat.eq_or_lt_of_le hi with z | z
    · rw [if_pos (show (24 : Int32) ≤ v from Int32.le_iff_toInt_le.mpr (by show (24 : Int) ≤ v.toInt; omega)), hw, z]; rfl
    · have e := hK.1 q i hq z
      have ei : v.toNatClampNeg = i := by have := clampI (x := v) (by omega); omega
      have qv := inc_sp v
      have qw := inc_sp w
      have hc := cnt_le (fun d => decide (1 ≤ S.1 q d)) i
      rw [if_neg (show ¬ (24 : Int32) ≤ v from fun c => by have t : 24 ≤ v.toInt := i_le c; omega), ei, show 10 + q + 8 = 18 + q by omega]
      by_cases c : M.1 (18 + q) i < 1
      · have t : (M.1 (18 + q) i).toInt < 1 := i_lt c
        rw [if_pos c]
        exact kGood_4 hK hq k w (v + 1) (i + 1) (by omega) (by omega) (by rw [cnt, if_neg (by simp; omega)]; omega) (by omega)
      · have t : 1 ≤ (M.1 (18 + q) i).toInt := i_nlt c
        rw [if_neg c]
        exact kGood_4 hK hq k (w + 1) (v + 1) (i + 1) (by omega) (by omega) (by rw [cnt, if_pos (by simp; omega)]; omega) (by omega)
theorem kGood (hK : AbK S M) {q : Nat} (hq : q < 8) : (f_X6_goodOnes M (10 + q)).toInt = Rg S q := kGood_4 hK hq 25 0 0 0 rfl (by omega) rfl (by omega)
theorem kGw_4 (hK : AbK S M) {q : Nat} (hq : q < 8) (a : Int32) : ∀ (k : Nat) (w v : Int32) (i : Nat), v.toInt = i → i ≤ 24 → w.toInt = cnt (fun d => decide (S.1 q d = a.toInt)) i → 24 - i < k → (f_X6_gradedWith_4 k M (10 + q) a w v).toInt = Gw S q a.toInt
  | 0, _, _, _, _, _, _, h => absurd h (by omega)
  | k + 1, w, v, i, hv, hi, hw, hk => by
    rw [f_X6_gradedWith_4]
    rcases Nat.eq_or_lt_of_le hi with z | z
    · rw [if_pos (show (24 : Int32) ≤ v from Int32.le_iff_toInt_le.mpr (by show (24 : Int) ≤ v.toInt; omega)), hw, z]; rfl
    · have e := hK.1 q i hq z
      have ei : v.toNatClampNeg = i := by have := clampI (x := v) (by omega); omega
      have qv := inc_sp v
      have qw := inc_sp w
      have hc := cnt_le (fun d => decide (S.1 q d = a.toInt)) i
      rw [if_neg (show ¬ (24 : Int32) ≤ v from fun c => by have t : 24 ≤ v.toInt := i_le c; omega), ei, show 10 + q + 8 = 18 + q by omega]
      by_cases c : M.1 (18 + q) i = a
      · rw [if_pos c]
        exact kGw_4 hK hq a k (w + 1) (v + 1) (i + 1) (by omega) (by omega) (by rw [cnt, if_pos (by simp; rw [← e, c])]; omega) (by omega)
      · rw [if_neg c]
        exact kGw_4 hK hq a k w (v + 1) (i + 1) (by omega) (by omega) (by rw [cnt, if_neg (by simp; intro z; exact c (i_ext (by rw [e, z])))]; omega) (by omega)
theorem kGw (hK : AbK S M) {q : Nat} (hq : q < 8) (a : Int32) : (f_X6_gradedWith M (10 + q) a).toInt = Gw S q a.toInt := kGw_4 hK hq a 25 0 0 0 rfl (by omega) rfl (by omega)
theorem i_add0 (x : Int32) : x + 0 = x := i_ext (by rw [Int32.toInt_add]; show Int.bmod (x.toInt + 0) _ = _; have := i_rg x; rw [Int.add_zero]; exact Int.bmod_eq_of_le (by simp; omega) (by simp; omega))
theorem mGr_6 (ho : okA S) (hM : AbM S M) {q : Int32} (hq : 0 ≤ q.toInt ∧ q.toInt < 8) (lo hi : Int32) : ∀ (k : Nat) (w v : Int32) (i : Nat), v.toInt = i → i ≤ 24 → w.toInt = cnt (fun d => decide (lo.toInt ≤ S.1 (nn q) d ∧ S.1 (nn q) d ≤ hi.toInt)) i → 24 - i < k → (f_X9_graded_6 k M q lo hi w v).toInt = cnt (fun d => decide (lo.toInt ≤ S.1 (nn q) d ∧ S.1 (nn q) d ≤ hi.toInt)) 24
  | 0, _, _, _, _, _, _, h => absurd h (by omega)
  | k + 1, w, v, i, hv, hi', hw, hk => by
    rw [f_X9_graded_6]
    simp only [bnd_eq]
    rcases Nat.eq_or_lt_of_le hi' with z | z
    · rw [if_pos (show (24 : Int32) ≤ v from Int32.le_iff_toInt_le.mpr (by show (24 : Int) ≤ v.toInt; omega)), hw, z]
    · have ei : nn v = i := by have := nn_ti (a := v) (by omega); omega
      have e := mGrade ho hM hq (d := v) ⟨by omega, by omega⟩
      rw [ei] at e
      have qv := inc_sp v
      have qw := inc_sp w
      have hc := cnt_le (fun d => decide (lo.toInt ≤ S.1 (nn q) d ∧ S.1 (nn q) d ≤ hi.toInt)) i
      rw [if_neg (show ¬ (24 : Int32) ≤ v from fun c => by have t : 24 ≤ v.toInt := i_le c; omega), i_add0]
      by_cases c : f_X9_gradeOf M q v < lo
      · have t := i_lt c
        rw [if_pos c]
        exact mGr_6 ho hM hq lo hi k w (v + 1) (i + 1) (by omega) (by omega) (by rw [cnt, if_neg (by simp; omega)]; omega) (by omega)
      · have t := i_nlt c
        rw [if_neg c]
        by_cases c2 : hi < f_X9_gradeOf M q v
        · have t2 := i_lt c2
          rw [if_pos c2]
          exact mGr_6 ho hM hq lo hi k w (v + 1) (i + 1) (by omega) (by omega) (by rw [cnt, if_neg (by simp; omega)]; omega) (by omega)
        · have t2 := i_nlt c2
          rw [if_neg c2]
          exact mGr_6 ho hM hq lo hi k (w + 1) (v + 1) (i + 1) (by omega) (by omega) (by rw [cnt, if_pos (by simp; omega)]; omega) (by omega)
theorem mGr (ho : okA S) (hM : AbM S M) {q : Int32} (hq : 0 ≤ q.toInt ∧ q.toInt < 8) (lo hi : Int32) : (f_X9_graded M q lo hi).toInt = cnt (fun d => decide (lo.toInt ≤ S.1 (nn q) d ∧ S.1 (nn q) d ≤ hi.toInt)) 24 := mGr_6 ho hM hq lo hi 25 0 0 0 rfl (by omega) rfl (by omega)
theorem mRs (ho : okA S) (hM : AbM S M) {q : Int32} (hq : 0 ≤ q.toInt ∧ q.toInt < 8) : (f_X9_rs M q).toInt = Rg S (nn q) := by
  unfold f_X9_rs
  rw [bnd_eq, mGr ho hM hq]
  congr 1
  exact cnt_congr 24 (fun d _ => by
    have h := ho.1 (nn q) d
    have e1 : (1 : Int32).toInt = 1 := rfl
    have e3 : (3 : Int32).toInt = 3 := rfl
    rw [e1, e3]
    by_cases c : 1 ≤ S.1 (nn q) d
    · simp only [c, h.2, and_self]
    · simp only [c, false_and])
theorem mGw (ho : okA S) (hM : AbM S M) {q : Int32} (hq : 0 ≤ q.toInt ∧ q.toInt < 8) (v : Int32) : (f_X9_graded M q v v).toInt = Gw S (nn q) v.toInt := by
  rw [mGr ho hM hq]
  congr 1
  exact cnt_congr 24 (fun d _ => by
    by_cases c : S.1 (nn q) d = v.toInt
    · simp [c]
    · have : ¬ (v.toInt ≤ S.1 (nn q) d ∧ S.1 (nn q) d ≤ v.toInt) := by omega
      simp [c, this])
def Tw (S : Ab) (q : Nat) : Nat := cnt (fun r => S.2.2.1 r q) 4
theorem kTold_4 (hK : AbK S M) {q : Nat} (hq : q < 8) : ∀ (k : Nat) (w v : Int32) (i : Nat), v.toInt = i → i ≤ 4 → w.toInt = cnt (fun r => S.2.2.1 r q) i → 4 - i < k → (f_X6_toldRows_4 k M (10 + q) w v).toInt = Tw S q
  | 0, _, _, _, _, _, _, h => absurd h (by omega)
  | k + 1, w, v, i, hv, hi, hw, hk => by
    rw [f_X6_toldRows_4]
    simp only [bnd_eq]
    rcases Nat.eq_or_lt_of_le hi with z | z
    · rw [if_pos (show (4 : Int32) ≤ v from Int32.le_iff_toInt_le.mpr (by show (4 : Int) ≤ v.toInt; omega)), hw, z]; rfl
    · have e := hK.2.2.1 i q z hq
      have ei : v.toNatClampNeg = i := by have := clampI (x := v) (by omega); omega
      have qv := inc_sp v
      have qw := inc_sp w
      have hc := cnt_le (fun r => S.2.2.1 r q) i
      rw [if_neg (show ¬ (4 : Int32) ≤ v from fun c => by have t : 4 ≤ v.toInt := i_le c; omega), ei, show 34 + 4 * (10 + q + 16 - 26) + i = 34 + 4 * q + i by omega]
      unfold f_X7_isTold
      rw [e]
      cases ht : S.2.2.1 i q
      · rw [if_pos (show (if false = true then (1 : Int32) else 0) = 0 from rfl)]
        exact kTold_4 hK hq k w (v + 1) (i + 1) (by omega) (by omega) (by rw [cnt, if_neg (by rw [ht]; decide)]; omega) (by omega)
      · rw [if_neg (show ¬ (if true = true then (1 : Int32) else 0) = 0 by decide)]
        exact kTold_4 hK hq k (w + 1) (v + 1) (i + 1) (by omega) (by omega) (by rw [cnt, if_pos ht]; omega) (by omega)
theorem mTold_19 (hM : AbM S M) {q : Int32} (hq : 0 ≤ q.toInt ∧ q.toInt < 8) (x : Int32) : ∀ (k : Nat) (w v : Int32) (i : Nat), v.toInt = i → i ≤ 4 → w.toInt = cnt (fun r => S.2.2.1 r (nn q)) i → 4 - i < k → (f_X9_count_19 k M q x w v).toInt = Tw S (nn q)
  | 0, _, _, _, _, _, _, h => absurd h (by omega)
  | k + 1, w, v, i, hv, hi, hw, hk => by
    rw [f_X9_count_19]
    simp only [bnd_eq]
    rcases Nat.eq_or_lt_of_le hi with z | z
    · rw [if_pos (show (4 : Int32) ≤ v from Int32.le_iff_toInt_le.mpr (by show (4 : Int) ≤ v.toInt; omega)), hw, z]; rfl
    · have hqn : nn q < 8 := nn_lt hq.1 (by omega)
      have e := hM.2.2.1 i (nn q) z hqn
      have ei : nn v = i := by have := nn_ti (a := v) (by omega); omega
      have e6 : (8 * v + q).toNatClampNeg = 8 * nn v + nn q := ixN8 ⟨by omega, by omega⟩ hq
      have qv := inc_sp v
      have qw := inc_sp w
      have hc := cnt_le (fun r => S.2.2.1 r (nn q)) i
      rw [if_neg (show ¬ (4 : Int32) ≤ v from fun c => by have t : 4 ≤ v.toInt := i_le c; omega), e6, ei, e, i_add0]
      cases ht : S.2.2.1 i (nn q)
      · rw [if_pos (show (if false = true then (1 : Int32) else 0) = 0 from rfl)]
        exact mTold_19 hM hq x k w (v + 1) (i + 1) (by omega) (by omega) (by rw [cnt, if_neg (by rw [ht]; decide)]; omega) (by omega)
      · rw [if_neg (show ¬ (if true = true then (1 : Int32) else 0) = 0 by decide)]
        exact mTold_19 hM hq x k (w + 1) (v + 1) (i + 1) (by omega) (by omega) (by rw [cnt, if_pos ht]; omega) (by omega)
end CN
theorem eq_count {M1 M2 : Mem} (a b : Int32) (h : Rel M1 M2) : f_X8_count M1 a b = f_X9_count M2 a b := by
  obtain ⟨S, ho, hK, hM, hB⟩ := id h
  unfold f_X8_count f_X9_count
  simp only [bnd_eq]
  rw [mQ]
  by_cases hq : 0 ≤ a.toInt ∧ a.toInt < 8
  · have hqn : nn a < 8 := nn_lt hq.1 (by omega)
    rw [qO_in hq, oc_some, if_pos hq, if_neg (show ¬ (1 : Int32) = 0 by decide)]
    by_cases b0 : b = 0
    · subst b0
      rw [if_pos rfl, if_neg (show ¬ (0 : Int32) = 2 by decide), if_pos rfl]
      exact i_ext ((kGood hK hqn).trans (mRs ho hM hq).symm)
    · rw [if_neg b0]
      by_cases b1 : b = 1
      · subst b1
        rw [if_pos rfl, if_neg (show ¬ (1 : Int32) = 2 by decide), if_neg (show ¬ (1 : Int32) = 0 by decide), if_pos rfl]
        exact i_ext ((kGw hK hqn 0).trans (mGw ho hM hq 0).symm)
      · rw [if_neg b1]
        by_cases b2 : b = 2
        · subst b2
          rw [if_pos rfl, if_pos rfl]
          exact i_ext ((kTold_4 hK hqn 5 0 0 0 rfl (by omega) rfl (by omega)).trans (mTold_19 hM hq 2 5 0 0 0 rfl (by omega) rfl (by omega)).symm)
        · rw [if_neg b2, if_neg b2, if_neg b0, if_neg b1]
  · rw [qO_out hq, oc_none, if_neg hq, if_pos rfl]
