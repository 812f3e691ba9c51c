/-! 78: grades by place in a row -/
def pg (S : Ab) (r q i : Nat) : Int := if i < S.2.1 r q then S.1 q (S.2.2.2 r q i) else -1
theorem pg_rg {S : Ab} (ho : okA S) (r q i : Nat) : -1 ≤ pg S r q i ∧ pg S r q i ≤ 3 := by
  unfold pg
  split
  · exact ho.1 _ _
  · omega
theorem pg_out {S : Ab} {r q i : Nat} (h : S.2.1 r q ≤ i) : pg S r q i = -1 := if_neg (by omega)
def Gd (S : Ab) (r q k : Nat) : Nat := cnt (fun i => decide (1 ≤ pg S r q i)) k
def Jd (S : Ab) (r q k : Nat) : Nat := cnt (fun i => decide (pg S r q i ≠ -1)) k
theorem cnt_cut {P : Nat → Bool} {n : Nat} (h : ∀ i, n ≤ i → P i = false) : ∀ k, cnt P k = cnt P (min n k)
  | 0 => by rw [Nat.min_zero]
  | k + 1 => by
    rcases Nat.lt_or_ge k n with z | z
    · rw [Nat.min_eq_right (by omega)]
    · rw [Nat.min_eq_left (by omega), cnt, h k z, cnt_cut h k, Nat.min_eq_left z]
      simp
theorem cnt_not (P : Nat → Bool) : ∀ k, cnt P k + cnt (fun i => !P i) k = k
  | 0 => rfl
  | k + 1 => by
    have := cnt_not P k
    rw [cnt, cnt]
    cases P k <;> simp <;> omega
section PS
variable {S : Ab} {M : Mem}
theorem kpg (ho : okA S) (hK : AbK S M) {r q : Nat} (hr : r < 4) (hq : q < 8) {a : Int32} {i : Nat} (ha : a.toInt = i + 1) (hi : i < 16) : (f_X6_gradeOf M (10 + q) (f_X7_documentAt M (34 + 4 * q + r) a)).toInt = pg S r q i := by
  by_cases h : i < S.2.1 r q
  · have e := kDoc ho hK hr hq (a := a) (by omega) (by omega)
    have e1 : (a.toInt - 1).toNat = i := by omega
    rw [e1] at e
    have h24 := ho.2.2.1 r q i h
    have e2 := kGrade hK hq (d := f_X7_documentAt M (34 + 4 * q + r) a) ⟨by omega, by omega⟩
    have e3 : nn (f_X7_documentAt M (34 + 4 * q + r) a) = S.2.2.2 r q i := by
      have := nn_ti (a := f_X7_documentAt M (34 + 4 * q + r) a) (by omega)
      omega
    rw [e2, e3]
    unfold pg
    rw [if_pos h]
  · rw [kDoc_out ho hK hr hq (by omega), kGrade_out (by decide), pg_out (by omega)]
    rfl
theorem kIsGood (M : Mem) (i : Nat) (d : Int32) : f_X6_isGood M i d = if (f_X6_gradeOf M i d).toInt < 1 then 0 else 1 := by
  unfold f_X6_isGood
  rw [bnd_eq]
  by_cases c : f_X6_gradeOf M i d < 1
  · rw [if_pos c, if_pos (show (f_X6_gradeOf M i d).toInt < 1 from i_lt c)]
  · rw [if_neg c, if_neg (show ¬ (f_X6_gradeOf M i d).toInt < 1 from fun z => c (Int32.lt_iff_toInt_lt.mpr z))]
theorem mIsGood (M : Mem) (q d : Int32) : f_X9_isGood M q d = if (f_X9_gradeOf M q d).toInt ≤ 0 then 0 else 1 := by
  unfold f_X9_isGood
  rw [bnd_eq]
  by_cases c : f_X9_gradeOf M q d ≤ 0
  · rw [if_pos c, if_pos (show (f_X9_gradeOf M q d).toInt ≤ 0 from i_le c)]
  · rw [if_neg c, if_neg (show ¬ (f_X9_gradeOf M q d).toInt ≤ 0 from fun z => c (Int32.le_iff_toInt_le.mpr z))]
theorem mpg (ho : okA S) (hM : AbM S M) {r q v : Int32} (hr : 0 ≤ r.toInt ∧ r.toInt < 4) (hq : 0 ≤ q.toInt ∧ q.toInt < 8) {i : Nat} (hv : v.toInt = i) (hi : i < S.2.1 (nn r) (nn q)) : (f_X9_gradeOf M q (f_X9_doc M r q v)).toInt = pg S (nn r) (nn q) i := by
  have e := mDoc ho hM hr hq (i := v) (by omega) (by omega)
  have ei : nn v = i := by have := nn_ti (a := v) (by omega); omega
  rw [ei] at e
  have h24 := ho.2.2.1 (nn r) (nn q) i hi
  have e2 := mGrade ho hM hq (d := f_X9_doc M r q v) ⟨by omega, by omega⟩
  have e3 : nn (f_X9_doc M r q v) = S.2.2.2 (nn r) (nn q) i := by
    have := nn_ti (a := f_X9_doc M r q v) (by omega)
    omega
  rw [e2, e3]
  unfold pg
  rw [if_pos hi]
theorem mFirst (hM : AbM S M) {r q k : Int32} (hr : 0 ≤ r.toInt ∧ r.toInt < 4) (hq : 0 ≤ q.toInt ∧ q.toInt < 8) {kk : Nat} (hk : k.toInt = kk) : (f_X9_first M r q k).toInt = (min (S.2.1 (nn r) (nn q)) kk : Nat) := by
  unfold f_X9_first
  simp only [bnd_eq]
  have es := mSize hM hr hq
  by_cases c : k ≤ f_X9_size M r q
  · have t := i_le c
    rw [if_pos c]
    omega
  · have t := i_nle c
    rw [if_neg c]
    omega
theorem kGa_5 (ho : okA S) (hK : AbK S M) {r q : Nat} (hr : r < 4) (hq : q < 8) {k : Int32} {kk : Nat} (hk : k.toInt = kk) (h16 : kk ≤ 16) : ∀ (n : Nat) (w v : Int32) (i : Nat), v.toInt = i + 1 → i ≤ kk → w.toInt = Gd S r q i → kk - i < n → (f_X3_goodAmong_5 n M (10 + q) (34 + 4 * q + r) k w v).toInt = Gd S r q kk
  | 0, _, _, _, _, _, _, h => absurd h (by omega)
  | n + 1, w, v, i, hv, hi, hw, hn => by
    rw [f_X3_goodAmong_5]
    simp only [bnd_eq]
    rcases Nat.eq_or_lt_of_le hi with z | z
    · rw [if_pos (show k < v from Int32.lt_iff_toInt_lt.mpr (by omega)), hw, z]
    · have e := kpg ho hK hr hq hv (by omega)
      have qv := inc_sp v
      have qw := inc_sp w
      have hc := cnt_le (fun i => decide (1 ≤ pg S r q i)) i
      have hc' : Gd S r q i ≤ i := hc
      rw [if_neg (show ¬ k < v from fun c => by have t := i_lt c; omega), kIsGood, e]
      by_cases c : pg S r q i < 1
      · rw [if_pos c, if_pos rfl]
        exact kGa_5 ho hK hr hq hk h16 n w (v + 1) (i + 1) (by omega) (by omega) (by rw [Gd, cnt, if_neg (by simp; omega)]; exact hw) (by omega)
      · rw [if_neg c, if_neg (show ¬ (1 : Int32) = 0 by decide)]
        exact kGa_5 ho hK hr hq hk h16 n (w + 1) (v + 1) (i + 1) (by omega) (by omega) (by rw [Gd, cnt, if_pos (by simp; omega)]; show _ = ((Gd S r q i + 1 : Nat) : Int); omega) (by omega)
theorem kGa (ho : okA S) (hK : AbK S M) {r q : Nat} (hr : r < 4) (hq : q < 8) {k : Int32} {kk : Nat} (hk : k.toInt = kk) (h16 : kk ≤ 16) : (f_X3_goodAmong M (10 + q) (34 + 4 * q + r) k).toInt = Gd S r q kk := kGa_5 ho hK hr hq hk h16 _ 0 1 0 rfl (by omega) rfl (by omega)
theorem kJa_5 (ho : okA S) (hK : AbK S M) {r q : Nat} (hr : r < 4) (hq : q < 8) {k : Int32} {kk : Nat} (hk : k.toInt = kk) (h16 : kk ≤ 16) : ∀ (n : Nat) (w v : Int32) (i : Nat), v.toInt = i + 1 → i ≤ kk → w.toInt = Jd S r q i → kk - i < n → (f_X3_judgedAmong_5 n M (10 + q) (34 + 4 * q + r) k w v).toInt = Jd S r q kk
  | 0, _, _, _, _, _, _, h => absurd h (by omega)
  | n + 1, w, v, i, hv, hi, hw, hn => by
    rw [f_X3_judgedAmong_5]
    simp only [bnd_eq]
    rcases Nat.eq_or_lt_of_le hi with z | z
    · rw [if_pos (show k < v from Int32.lt_iff_toInt_lt.mpr (by omega)), hw, z]
    · have e := kpg ho hK hr hq hv (by omega)
      have qv := inc_sp v
      have qw := inc_sp w
      have hc := cnt_le (fun i => decide (pg S r q i ≠ -1)) i
      have hc' : Jd S r q i ≤ i := hc
      have em1 : (-1 : Int32).toInt = -1 := rfl
      rw [if_neg (show ¬ k < v from fun c => by have t := i_lt c; omega)]
      by_cases c : f_X6_gradeOf M (10 + q) (f_X7_documentAt M (34 + 4 * q + r) v) = -1
      · rw [c, em1] at e
        rw [if_pos c]
        exact kJa_5 ho hK hr hq hk h16 n w (v + 1) (i + 1) (by omega) (by omega) (by rw [Jd, cnt, if_neg (by simp; omega)]; exact hw) (by omega)
      · have e2 : pg S r q i ≠ -1 := fun z => c (i_ext (by rw [e, z, em1]))
        rw [if_neg c]
        exact kJa_5 ho hK hr hq hk h16 n (w + 1) (v + 1) (i + 1) (by omega) (by omega) (by rw [Jd, cnt, if_pos (by simp; exact e2)]; show _ = ((Jd S r q i + 1 : Nat) : Int); omega) (by omega)
theorem kJa (ho : okA S) (hK : AbK S M) {r q : Nat} (hr : r < 4) (hq : q < 8) {k : Int32} {kk : Nat} (hk : k.toInt = kk) (h16 : kk ≤ 16) : (f_X3_judgedAmong M (10 + q) (34 + 4 * q + r) k).toInt = Jd S r q kk := kJa_5 ho hK hr hq hk h16 _ 0 1 0 rfl (by omega) rfl (by omega)
theorem mGo_6 (ho : okA S) (hM : AbM S M) {r q k : Int32} (hr : 0 ≤ r.toInt ∧ r.toInt < 4) (hq : 0 ≤ q.toInt ∧ q.toInt < 8) {kk : Nat} (hk : k.toInt = kk) : ∀ (n : Nat) (w v : Int32) (i : Nat), v.toInt = i → i ≤ min (S.2.1 (nn r) (nn q)) kk → w.toInt = Gd S (nn r) (nn q) i → 16 - i < n → (f_X9_goods_6 n M r q k w v).toInt = Gd S (nn r) (nn q) (min (S.2.1 (nn r) (nn q)) kk)
  | 0, _, _, _, _, _, _, h => absurd h (by omega)
  | n + 1, w, v, i, hv, hi, hw, hn => by
    rw [f_X9_goods_6]
    simp only [bnd_eq]
    have ef := mFirst hM hr hq hk
    have h16 := ho.2.1 (nn r) (nn q)
    rcases Nat.eq_or_lt_of_le hi with z | z
    · rw [if_pos (show f_X9_first M r q k ≤ v from Int32.le_iff_toInt_le.mpr (by omega)), hw, z]
    · have e := mpg ho hM hr hq hv (by omega)
      have qv := inc_sp v
      have qw := inc_sp w
      have hc : Gd S (nn r) (nn q) i ≤ i := cnt_le _ i
      rw [if_neg (show ¬ f_X9_first M r q k ≤ v from fun c => by have t := i_le c; omega), mIsGood, e, i_add0]
      by_cases c : pg S (nn r) (nn q) i ≤ 0
      · rw [if_pos c, if_pos rfl]
        exact mGo_6 ho hM hr hq hk n w (v + 1) (i + 1) (by omega) (by omega) (by rw [Gd, cnt, if_neg (by simp; omega)]; exact hw) (by omega)
      · rw [if_neg c, if_neg (show ¬ (1 : Int32) = 0 by decide)]
        exact mGo_6 ho hM hr hq hk n (w + 1) (v + 1) (i + 1) (by omega) (by omega) (by rw [Gd, cnt, if_pos (by simp; omega)]; show _ = ((Gd S (nn r) (nn q) i + 1 : Nat) : Int); omega) (by omega)
theorem Gd_cut (S : Ab) (r q k : Nat) : Gd S r q k = Gd S r q (min (S.2.1 r q) k) := cnt_cut (fun i h => by rw [pg_out h]; rfl) k
theorem Jd_cut (S : Ab) (r q k : Nat) : Jd S r q k = Jd S r q (min (S.2.1 r q) k) := cnt_cut (fun i h => by rw [pg_out h]; rfl) k
theorem mGo (ho : okA S) (hM : AbM S M) {r q k : Int32} (hr : 0 ≤ r.toInt ∧ r.toInt < 4) (hq : 0 ≤ q.toInt ∧ q.toInt < 8) {kk : Nat} (hk : k.toInt = kk) : (f_X9_goods M r q k).toInt = Gd S (nn r) (nn q) kk := by
  rw [Gd_cut]
  exact mGo_6 ho hM hr hq hk 17 0 0 0 rfl (by omega) rfl (by omega)
def Uj (S : Ab) (r q k : Nat) : Nat := cnt (fun i => !decide (pg S r q i ≠ -1)) k
theorem mUn_6 (ho : okA S) (hM : AbM S M) {r q k : Int32} (hr : 0 ≤ r.toInt ∧ r.toInt < 4) (hq : 0 ≤ q.toInt ∧ q.toInt < 8) {kk : Nat} (hk : k.toInt = kk) : ∀ (n : Nat) (w v : Int32) (i : Nat), v.toInt = i → i ≤ min (S.2.1 (nn r) (nn q)) kk → w.toInt = Uj S (nn r) (nn q) i → 16 - i < n → (f_X9_unjudged_6 n M r q k w v).toInt = Uj S (nn r) (nn q) (min (S.2.1 (nn r) (nn q)) kk)
  | 0, _, _, _, _, _, _, h => absurd h (by omega)
  | n + 1, w, v, i, hv, hi, hw, hn => by
    rw [f_X9_unjudged_6]
    simp only [bnd_eq]
    have ef := mFirst hM hr hq hk
    have h16 := ho.2.1 (nn r) (nn q)
    rcases Nat.eq_or_lt_of_le hi with z | z
    · rw [if_pos (show f_X9_first M r q k ≤ v from Int32.le_iff_toInt_le.mpr (by omega)), hw, z]
    · have e := mpg ho hM hr hq hv (by omega)
      have hp := pg_rg ho (nn r) (nn q) i
      have qv := inc_sp v
      have qw := inc_sp w
      have hc : Uj S (nn r) (nn q) i ≤ i := cnt_le _ i
      rw [if_neg (show ¬ f_X9_first M r q k ≤ v from fun c => by have t := i_le c; omega), i_add0]
      by_cases c : 0 ≤ f_X9_gradeOf M q (f_X9_doc M r q v)
      · have t : 0 ≤ (f_X9_gradeOf M q (f_X9_doc M r q v)).toInt := i_le c
        rw [if_pos c]
        exact mUn_6 ho hM hr hq hk n w (v + 1) (i + 1) (by omega) (by omega) (by rw [Uj, cnt, if_neg (by simp; omega)]; exact hw) (by omega)
      · have t : (f_X9_gradeOf M q (f_X9_doc M r q v)).toInt < 0 := i_nle c
        rw [if_neg c]
        exact mUn_6 ho hM hr hq hk n (w + 1) (v + 1) (i + 1) (by omega) (by omega) (by rw [Uj, cnt, if_pos (by simp; omega)]; show _ = ((Uj S (nn r) (nn q) i + 1 : Nat) : Int); omega) (by omega)
theorem mUn (ho : okA S) (hM : AbM S M) {r q k : Int32} (hr : 0 ≤ r.toInt ∧ r.toInt < 4) (hq : 0 ≤ q.toInt ∧ q.toInt < 8) {kk : Nat} (hk : k.toInt = kk) : (f_X9_unjudged M r q k).toInt + Jd S (nn r) (nn q) kk = (min (S.2.1 (nn r) (nn q)) kk : Nat) := by
  have e : (f_X9_unjudged M r q k).toInt = Uj S (nn r) (nn q) (min (S.2.1 (nn r) (nn q)) kk) := mUn_6 ho hM hr hq hk 17 0 0 0 rfl (by omega) rfl (by omega)
  rw [e, Jd_cut]
  have := cnt_not (fun i => decide (pg S (nn r) (nn q) i ≠ -1)) (min (S.2.1 (nn r) (nn q)) kk)
  unfold Uj Jd
  omega
end PS
