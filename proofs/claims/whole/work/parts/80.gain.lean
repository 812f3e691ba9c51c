/-! 80: GAIN, FIRST -/
def wt (g : Int) : Int := if g = 1 then 1 else if g = 2 then 3 else if g = 3 then 7 else 0
theorem wt_bd (g : Int) : 0 ≤ wt g ∧ wt g ≤ 7 := by unfold wt; split; omega; split; omega; split <;> omega
theorem i_cases5 {x : Int32} (h : -1 ≤ x.toInt ∧ x.toInt ≤ 3) : x = -1 ∨ x = 0 ∨ x = 1 ∨ x = 2 ∨ x = 3 := by
  have h2 : x.toInt = -1 ∨ x.toInt = 0 ∨ x.toInt = 1 ∨ x.toInt = 2 ∨ x.toInt = 3 := by omega
  rcases h2 with z | z | z | z | z
  · exact Or.inl (i_ext (by rw [z]; rfl))
  · exact Or.inr (Or.inl (i_ext (by rw [z]; rfl)))
  · exact Or.inr (Or.inr (Or.inl (i_ext (by rw [z]; rfl))))
  · exact Or.inr (Or.inr (Or.inr (Or.inl (i_ext (by rw [z]; rfl)))))
  · exact Or.inr (Or.inr (Or.inr (Or.inr (i_ext (by rw [z]; rfl)))))
theorem kW {x : Int32} (h : -1 ≤ x.toInt ∧ x.toInt ≤ 3) : (f_X3_weightOf x).toInt = wt x.toInt := by
  rcases i_cases5 h with z | z | z | z | z <;> subst z <;> decide
theorem mW {x : Int32} (h : 1 ≤ x.toInt ∧ x.toInt ≤ 3) : (f_X9_worth x).toInt = wt x.toInt := by
  rcases i_cases5 ⟨by omega, h.2⟩ with z | z | z | z | z
  · subst z; exact absurd h.1 (by decide)
  · subst z; exact absurd h.1 (by decide)
  · subst z; decide
  · subst z; decide
  · subst z; decide
def gnw (S : Ab) (r q i : Nat) : Int := wt (pg S r q i) * (720720 / ((i : Int) + 1))
def GnN (S : Ab) (r q k : Nat) : Int := sm (gnw S r q) k
theorem gnw_bd (S : Ab) (r q : Nat) {i : Nat} (hi : i < 16) : 0 ≤ gnw S r q i ∧ gnw S r q i ≤ 5045040 := by
  unfold gnw
  have h1 := divP_bd hi
  have h2 := wt_bd (pg S r q i)
  have a1 : 0 ≤ wt (pg S r q i) * (720720 / ((i : Int) + 1)) := Int.mul_nonneg (by omega) (by omega)
  have a2 : wt (pg S r q i) * (720720 / ((i : Int) + 1)) ≤ 7 * 720720 := Int.mul_le_mul (by omega) h1.2 (by omega) (by decide)
  omega
theorem GnN_bd (S : Ab) (r q : Nat) {k : Nat} (hk : k ≤ 16) : 0 ≤ GnN S r q k ∧ GnN S r q k ≤ 80720640 := by
  have h := sm_bd (w := gnw S r q) (B := 5045040) k (fun i hi => gnw_bd S r q (by omega))
  have : (k : Int) * 5045040 ≤ 16 * 5045040 := Int.mul_le_mul_of_nonneg_right (by omega) (by decide)
  unfold GnN
  omega
theorem wt_neg {g : Int} (h : g ≤ 0) : wt g = 0 := by unfold wt; rw [if_neg (by omega), if_neg (by omega), if_neg (by omega)]
theorem GnN_cut (S : Ab) (r q k : Nat) : GnN S r q k = GnN S r q (min (S.2.1 r q) k) := sm_cut (fun i h => by unfold gnw; rw [pg_out h, wt_neg (by decide), Int.zero_mul]) k
section GN
variable {S : Ab} {M : Mem}
theorem kGn_5 (ho : okA S) (hK : AbK S M) {r q : Nat} (hr : r < 4) (hq : q < 8) {k : Int32} {kk : Nat} (hk : k.toInt = kk) (h16 : kk ≤ 16) : ∀ (n : Nat) (x : Int64) (v : Int32) (i : Nat), v.toInt = i + 1 → i ≤ kk → x.toInt = GnN S r q i → kk - i < n → (f_X3_gainParts_5 n M (10 + q) (34 + 4 * q + r) k x v).toInt = GnN S r q kk
  | 0, _, _, _, _, _, _, h => absurd h (by omega)
  | n + 1, x, v, i, hv, hi, hx, hn => by
    rw [f_X3_gainParts_5]
    simp only [bnd_eq]
    rcases Nat.eq_or_lt_of_le hi with z | z
    · rw [if_pos (show k < v from Int32.lt_iff_toInt_lt.mpr (by omega)), hx, z]
    · have e := kpg ho hK hr hq hv (by omega)
      have qv := inc_sp v
      have hb := GnN_bd S r q (k := i) (by omega)
      have hb2 := gnw_bd S r q (i := i) (by omega)
      have hp := pg_rg ho r q i
      rw [if_neg (show ¬ k < v from fun c => by have t := i_lt c; omega)]
      have e1 : (f_X3_weightOf (f_X6_gradeOf M (10 + q) (f_X7_documentAt M (34 + 4 * q + r) v))).toInt = wt (pg S r q i) := by rw [kW (by rw [e]; exact hp), e]
      have e2 := kdivP hv
      have e3 : (f_X3_weightOf (f_X6_gradeOf M (10 + q) (f_X7_documentAt M (34 + 4 * q + r) v)) * (720720 / v.toInt64)).toInt = gnw S r q i := by
        rw [l_mul (by rw [e1, e2]; show _ ≤ gnw S r q i; omega) (by rw [e1, e2]; show gnw S r q i < _; omega), e1, e2]; rfl
      have e4 : (x + f_X3_weightOf (f_X6_gradeOf M (10 + q) (f_X7_documentAt M (34 + 4 * q + r) v)) * (720720 / v.toInt64)).toInt = GnN S r q (i + 1) := by
        rw [l_add (by rw [e3, hx]; omega) (by rw [e3, hx]; omega), e3, hx]; rfl
      exact kGn_5 ho hK hr hq hk h16 n _ (v + 1) (i + 1) (by omega) (by omega) e4 (by omega)
theorem kGn (ho : okA S) (hK : AbK S M) {r q : Nat} (hr : r < 4) (hq : q < 8) {k : Int32} {kk : Nat} (hk : k.toInt = kk) (h16 : kk ≤ 16) : (f_X3_gainParts M (10 + q) (34 + 4 * q + r) k).toInt = GnN S r q kk := kGn_5 ho hK hr hq hk h16 _ 0 1 0 rfl (by omega) rfl (by omega)
theorem mGn_9 (ho : okA S) {r q k : Int32} (hr : 0 ≤ r.toInt ∧ r.toInt < 4) (hq : 0 ≤ q.toInt ∧ q.toInt < 8) {kk : Nat} (hk : k.toInt = kk) : ∀ (n : Nat) (M : Mem) (v : Int32) (i : Nat), AbM S M → v.toInt = i → i ≤ min (S.2.1 (nn r) (nn q)) kk → (M.2 0 6).toInt = (rd (GnN S (nn r) (nn q) i) 720720).1 → (M.2 0 7).toInt = (rd (GnN S (nn r) (nn q) i) 720720).2 → 16 - i < n →
    ((f_X9_gained_9 n M r q k v).2 0 6).toInt = (rd (GnN S (nn r) (nn q) (min (S.2.1 (nn r) (nn q)) kk)) 720720).1 ∧ ((f_X9_gained_9 n M r q k v).2 0 7).toInt = (rd (GnN S (nn r) (nn q) (min (S.2.1 (nn r) (nn q)) kk)) 720720).2
  | 0, _, _, _, _, _, _, _, _, h => absurd h (by omega)
  | n + 1, M, v, i, hM, hv, hi, h6, h7, hn => by
    rw [f_X9_gained_9]
    simp only [bnd_eq]
    have ef := mFirst hM hr hq hk
    have h16 := ho.2.1 (nn r) (nn q)
    have hb := GnN_bd S (nn r) (nn q) (k := i) (by omega)
    rcases Nat.eq_or_lt_of_le hi with z | z
    · rw [if_pos (show f_X9_first M r q k ≤ v from Int32.le_iff_toInt_le.mpr (by omega)), ← z]
      exact ⟨h6, h7⟩
    · have e := mpg ho hM hr hq hv (by omega)
      have qv := inc_sp v
      have hp := pg_rg ho (nn r) (nn q) i
      have hb2 := gnw_bd S (nn r) (nn q) (i := i) (by omega)
      rw [if_neg (show ¬ f_X9_first M r q k ≤ v from fun c => by have t := i_le c; omega), mIsGood, e]
      by_cases c : pg S (nn r) (nn q) i ≤ 0
      · rw [if_pos c, if_pos rfl]
        have ea : GnN S (nn r) (nn q) (i + 1) = GnN S (nn r) (nn q) i := by unfold GnN; rw [sm]; unfold gnw; rw [wt_neg c, Int.zero_mul, Int.add_zero]
        exact mGn_9 ho hr hq hk n M (v + 1) (i + 1) hM (by omega) (by omega) (by rw [ea]; exact h6) (by rw [ea]; exact h7) (by omega)
      · rw [if_neg c, if_neg (show ¬ (1 : Int32) = 0 by decide)]
        have e1 : ((f_X9_worth (f_X9_gradeOf M q (f_X9_doc M r q v))).toInt64).toInt = wt (pg S (nn r) (nn q) i) := by rw [i2l_ti, mW (by rw [e]; omega), e]
        have e2 : (v.toInt64 + 1).toInt = (i : Int) + 1 := by
          have e0 := i2l_ti v
          have e9 : (1 : Int64).toInt = 1 := rfl
          rw [l_add (by rw [e0, e9]; omega) (by rw [e0, e9]; omega), e0, e9, hv]
        have R := plG (M := M) (a := (f_X9_worth (f_X9_gradeOf M q (f_X9_doc M r q v))).toInt64) (c := v.toInt64 + 1) (N := GnN S (nn r) (nn q) i) (L := 720720) (by decide) (by decide) h6 h7 (by rw [e2]; omega) (by rw [e2]; exact dvdPi (by omega)) (by rw [e1, e2, ← Int.natAbs_mul]; show _ + (gnw S (nn r) (nn q) i).natAbs < _; omega)
        rw [e1, e2] at R
        exact mGn_9 ho hr hq hk n _ (v + 1) (i + 1) (hM.of1 (fr_plus _ _ _).1) (by omega) (by omega) R.1 R.2 (by omega)
theorem mGn (ho : okA S) (hM : AbM S M) {r q k : Int32} (hr : 0 ≤ r.toInt ∧ r.toInt < 4) (hq : 0 ≤ q.toInt ∧ q.toInt < 8) {kk : Nat} (hk : k.toInt = kk) :
    ((f_X9_gained M r q k).2 0 6).toInt = (rd (GnN S (nn r) (nn q) kk) 720720).1 ∧ ((f_X9_gained M r q k).2 0 7).toInt = (rd (GnN S (nn r) (nn q) kk) 720720).2 := by
  rw [GnN_cut]
  have m0 := mkG (M := M) (a := 0) (b := 1) (by decide) (by decide)
  have z0 : rd (0 : Int64).toInt (1 : Int64).toInt = rd (GnN S (nn r) (nn q) 0) 720720 := (show rd (0 : Int) 1 = rd 0 720720 by decide)
  rw [z0] at m0
  exact mGn_9 ho hr hq hk 17 _ 0 0 (hM.of1 (fr_make _ _ _).1) rfl (by omega) m0.1 m0.2 (by omega)
/-- the first good place among k, plus 1; 0: none -/
def ff (P : Nat → Bool) : Nat → Nat
  | 0 => 0
  | k + 1 => if ff P k = 0 then (if P k then k + 1 else 0) else ff P k
theorem ff_le (P : Nat → Bool) : ∀ k, ff P k ≤ k
  | 0 => Nat.le_refl _
  | k + 1 => by
    have := ff_le P k
    rw [ff]
    split
    · split <;> omega
    · omega
theorem ff_up (P : Nat → Bool) {i : Nat} : ∀ {k}, i ≤ k → ff P i ≠ 0 → ff P k = ff P i
  | 0, h, _ => by have : i = 0 := by omega
                  subst this; rfl
  | k + 1, h, h0 => by
    rcases Nat.eq_or_lt_of_le h with z | z
    · rw [z]
    · have := ff_up P (i := i) (k := k) (by omega) h0
      rw [ff, if_neg (by omega), this]
theorem ff_cut {P : Nat → Bool} {n : Nat} (h : ∀ i, n ≤ i → P i = false) : ∀ k, ff P k = ff P (min n k)
  | 0 => by rw [Nat.min_zero]
  | k + 1 => by
    rcases Nat.lt_or_ge k n with z | z
    · rw [Nat.min_eq_right (by omega)]
    · rw [Nat.min_eq_left (by omega), ff, h k z, ff_cut h k, Nat.min_eq_left z]
      split
      · rename_i e; rw [e]; rfl
      · rfl
def Fr1 (S : Ab) (r q k : Nat) : Nat := ff (fun i => decide (1 ≤ pg S r q i)) k
theorem kFg_2 (ho : okA S) (hK : AbK S M) {r q : Nat} (hr : r < 4) (hq : q < 8) {k : Int32} {kk : Nat} (hk : k.toInt = kk) (h16 : kk ≤ 16) : ∀ (n : Nat) (v : Int32) (i : Nat), v.toInt = i + 1 → i ≤ kk → Fr1 S r q i = 0 → kk - i < n → (f_X3_firstGoodRank_2 n M (10 + q) (34 + 4 * q + r) k v).toInt = Fr1 S r q kk
  | 0, _, _, _, _, _, h => absurd h (by omega)
  | n + 1, v, i, hv, hi, h0, hn => by
    rw [f_X3_firstGoodRank_2]
    simp only [bnd_eq]
    rcases Nat.eq_or_lt_of_le hi with z | z
    · rw [if_pos (show k < v from Int32.lt_iff_toInt_lt.mpr (by omega)), ← z, h0]; rfl
    · have e := kpg ho hK hr hq hv (by omega)
      have qv := inc_sp v
      rw [if_neg (show ¬ k < v from fun c => by have t := i_lt c; omega), kIsGood, e]
      by_cases c : pg S r q i < 1
      · rw [if_pos c, if_pos rfl]
        have h1 : Fr1 S r q (i + 1) = 0 := by
          unfold Fr1 at *
          rw [ff, if_pos h0, if_neg (by simp; omega)]
        exact kFg_2 ho hK hr hq hk h16 n (v + 1) (i + 1) (by omega) (by omega) h1 (by omega)
      · rw [if_neg c, if_neg (show ¬ (1 : Int32) = 0 by decide)]
        have h1 : Fr1 S r q (i + 1) = i + 1 := by
          unfold Fr1 at *
          rw [ff, if_pos h0, if_pos (by simp; omega)]
        have h2 : Fr1 S r q kk = i + 1 := by
          have := ff_up (fun i => decide (1 ≤ pg S r q i)) (i := i + 1) (k := kk) (by omega) (by show Fr1 S r q (i + 1) ≠ 0; omega)
          exact this.trans h1
        rw [h2, hv]; omega
theorem kFg (ho : okA S) (hK : AbK S M) {r q : Nat} (hr : r < 4) (hq : q < 8) {k : Int32} {kk : Nat} (hk : k.toInt = kk) (h16 : kk ≤ 16) : (f_X3_firstGoodRank M (10 + q) (34 + 4 * q + r) k).toInt = Fr1 S r q kk := kFg_2 ho hK hr hq hk h16 _ 1 0 rfl (by omega) rfl (by omega)
theorem mFg_17 (ho : okA S) {r q k : Int32} (hr : 0 ≤ r.toInt ∧ r.toInt < 4) (hq : 0 ≤ q.toInt ∧ q.toInt < 8) : ∀ (j n : Nat) (M : Mem) (v : Int32), AbM S M → v.toInt + 1 = j → j ≤ S.2.1 (nn r) (nn q) → j < n →
    if Fr1 S (nn r) (nn q) j = 0 then f_X9_firstGood_17 n M r q k v = M else (((f_X9_firstGood_17 n M r q k v).2 0 6).toInt = (rd 1 (Fr1 S (nn r) (nn q) j)).1 ∧ ((f_X9_firstGood_17 n M r q k v).2 0 7).toInt = (rd 1 (Fr1 S (nn r) (nn q) j)).2)
  | _, 0, _, _, _, _, _, h => absurd h (by omega)
  | 0, n + 1, M, v, hM, hv, hj, hn => by
    rw [if_pos (show Fr1 S (nn r) (nn q) 0 = 0 from rfl), f_X9_firstGood_17, if_pos (show v < 0 from Int32.lt_iff_toInt_lt.mpr (by show v.toInt < 0; omega))]
  | j + 1, n + 1, M, v, hM, hv, hj, hn => by
    have h16 := ho.2.1 (nn r) (nn q)
    have e := mpg ho hM hr hq (v := v) (i := j) (by omega) (by omega)
    have qd := dec_ok (x := v) (by omega)
    rw [f_X9_firstGood_17, if_neg (show ¬ v < 0 from fun c => by have t : v.toInt < 0 := i_lt c; omega)]
    simp only [bnd_eq]
    rw [mIsGood, e]
    have hf : Fr1 S (nn r) (nn q) (j + 1) = if Fr1 S (nn r) (nn q) j = 0 then (if decide (1 ≤ pg S (nn r) (nn q) j) = true then j + 1 else 0) else Fr1 S (nn r) (nn q) j := rfl
    by_cases c : pg S (nn r) (nn q) j ≤ 0
    · rw [if_pos c, if_pos rfl]
      have ih := mFg_17 ho (k := k) hr hq j n M (v + (-1)) hM (by omega) (by omega) (by omega)
      have hg : Fr1 S (nn r) (nn q) (j + 1) = Fr1 S (nn r) (nn q) j := by
        rw [hf, if_neg (show ¬ decide (1 ≤ pg S (nn r) (nn q) j) = true by simp; omega)]
        split
        · rename_i z; rw [z]
        · rfl
      rw [hg]
      exact ih
    · rw [if_neg c, if_neg (show ¬ (1 : Int32) = 0 by decide)]
      have ih := mFg_17 ho (k := k) hr hq j n (f_X9_make M 1 (v.toInt64 + 1)) (v + (-1)) (hM.of1 (fr_make _ _ _).1) (by omega) (by omega) (by omega)
      have e2 : (v.toInt64 + 1).toInt = (j : Int) + 1 := by
        have e0 := i2l_ti v
        have e9 : (1 : Int64).toInt = 1 := rfl
        rw [l_add (by rw [e0, e9]; omega) (by rw [e0, e9]; omega), e0, e9]; omega
      by_cases z : Fr1 S (nn r) (nn q) j = 0
      · have hg : Fr1 S (nn r) (nn q) (j + 1) = j + 1 := by rw [hf, if_pos z, if_pos (show decide (1 ≤ pg S (nn r) (nn q) j) = true by simp; omega)]
        rw [if_pos z] at ih
        rw [ih, hg, if_neg (by omega)]
        have m0 := mkG (M := M) (a := 1) (b := v.toInt64 + 1) (by decide) (by rw [e2]; omega)
        rw [e2] at m0
        exact m0
      · have hg : Fr1 S (nn r) (nn q) (j + 1) = Fr1 S (nn r) (nn q) j := by rw [hf, if_neg z]
        rw [if_neg z] at ih
        rw [hg, if_neg z]
        exact ih
theorem mFg (ho : okA S) (hM : AbM S M) {r q k : Int32} (hr : 0 ≤ r.toInt ∧ r.toInt < 4) (hq : 0 ≤ q.toInt ∧ q.toInt < 8) {kk : Nat} (hk : k.toInt = kk) :
    ((f_X9_firstGood M r q k).2 0 6).toInt = (rd 1 (Fr1 S (nn r) (nn q) kk)).1 ∧ ((f_X9_firstGood M r q k).2 0 7).toInt = (rd 1 (Fr1 S (nn r) (nn q) kk)).2 := by
  have hcut : Fr1 S (nn r) (nn q) kk = Fr1 S (nn r) (nn q) (min (S.2.1 (nn r) (nn q)) kk) := ff_cut (fun i h => by rw [pg_out h]; rfl) kk
  rw [hcut]
  have m0 := mkG (M := M) (a := 0) (b := 1) (by decide) (by decide)
  have hM' : AbM S (f_X9_make M 0 1) := hM.of1 (fr_make _ _ _).1
  have ef := mFirst hM' hr hq hk
  have h16 := ho.2.1 (nn r) (nn q)
  have qd := dec_sp (f_X9_first (f_X9_make M 0 1) r q k)
  have T := mFg_17 ho (k := k) hr hq (min (S.2.1 (nn r) (nn q)) kk) ((((f_X9_first (f_X9_make M 0 1) r q k) - 1).toInt + 1 : Int).toNat + 1) (f_X9_make M 0 1) ((f_X9_first (f_X9_make M 0 1) r q k) - 1) hM' (by omega) (by omega) (by omega)
  have eu : f_X9_firstGood M r q k = f_X9_firstGood_17 ((((f_X9_first (f_X9_make M 0 1) r q k) - 1).toInt + 1 : Int).toNat + 1) (f_X9_make M 0 1) r q k ((f_X9_first (f_X9_make M 0 1) r q k) - 1) := by
    unfold f_X9_firstGood; simp only [bnd_eq]
  rw [eu]
  by_cases z : Fr1 S (nn r) (nn q) (min (S.2.1 (nn r) (nn q)) kk) = 0
  · rw [if_pos z] at T
    rw [T, z]
    have z0 : rd (0 : Int64).toInt (1 : Int64).toInt = rd 1 ((0 : Nat) : Int) := (show rd (0 : Int) 1 = rd 1 0 by decide)
    rw [z0] at m0
    exact m0
  · rw [if_neg z] at T
    exact T
end GN
