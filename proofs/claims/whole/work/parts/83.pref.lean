/-! 83: PREFERENCE -/
def Bd0 (S : Ab) (r q i : Nat) : Nat := cnt (fun j => decide (pg S r q j = 0)) i
def prw (S : Ab) (r q m i : Nat) : Int := if 1 ≤ pg S r q i then (if m = 0 then 1 else (m : Int) - ((min m (Bd0 S r q i) : Nat) : Int)) else 0
def PrN (S : Ab) (r q m k : Nat) : Int := sm (prw S r q m) k
theorem prw_bd (S : Ab) (r q : Nat) {m : Nat} (hm : m ≤ 24) (i : Nat) : 0 ≤ prw S r q m i ∧ prw S r q m i ≤ 24 := by
  unfold prw
  split
  · split
    · omega
    · omega
  · omega
theorem PrN_bd (S : Ab) (r q : Nat) {m : Nat} (hm : m ≤ 24) {k : Nat} (hk : k ≤ 16) : 0 ≤ PrN S r q m k ∧ PrN S r q m k ≤ 384 := by
  have h := sm_bd (w := prw S r q m) (B := 24) k (fun i _ => prw_bd S r q hm i)
  unfold PrN
  omega
theorem PrN_cut (S : Ab) (r q m k : Nat) : PrN S r q m k = PrN S r q m (min (S.2.1 r q) k) := sm_cut (fun i h => by unfold prw; rw [pg_out h, if_neg (by decide)]) k
theorem PrN_0 (S : Ab) (r q : Nat) : ∀ k, PrN S r q 0 k = (Gd S r q k : Nat)
  | 0 => rfl
  | k + 1 => by
    have ih := PrN_0 S r q k
    unfold PrN Gd at *
    rw [sm, cnt, ih]
    unfold prw
    by_cases c : 1 ≤ pg S r q k
    · rw [if_pos c, if_pos rfl, if_pos (by simp; exact c)]; omega
    · rw [if_neg c, if_neg (by simp; omega)]; omega
theorem Rg_le (S : Ab) (q : Nat) : Rg S q ≤ 24 := cnt_le _ 24
/-- m -/
def Mm (S : Ab) (q : Nat) : Nat := min (Gw S q 0) (Rg S q)
theorem Mm_le (S : Ab) (q : Nat) : Mm S q ≤ 24 := by
  have := Rg_le S q
  unfold Mm
  omega
def isB (M M' : Mem) (i : Nat) (V : Int × Int) : Prop := ∃ a b : Int64, M' = f_X1_become M i a b ∧ -9223372036854775808 < a.toInt ∧ rd a.toInt b.toInt = V
theorem isB.val {M M' : Mem} {i : Nat} {V : Int × Int} (h : isB M M' i V) : (M'.2 i 0).toInt = V.1 ∧ (M'.2 i 1).toInt = V.2 := by
  obtain ⟨a, b, e, h1, h2⟩ := h
  rw [e, ← h2]
  exact bcG h1
theorem isB.fr {M M' : Mem} {i : Nat} {V : Int × Int} (h : isB M M' i V) : M'.1 = M.1 ∧ ∀ j, j ≠ i → M'.2 j = M.2 j := by
  obtain ⟨a, b, e, h1, h2⟩ := h
  rw [e]
  exact bc_fr M i a b
def isM (M M' : Mem) (V : Int × Int) : Prop := (M'.2 0 6).toInt = V.1 ∧ (M'.2 0 7).toInt = V.2
section PR
variable {S : Ab} {M : Mem}
theorem kPr_47 (ho : okA S) (hK : AbK S M) {r q fi : Nat} (hr : r < 4) (hq : q < 8) {k v4 v5 : Int32} {kk m : Nat} (hk : k.toInt = kk) (h16 : kk ≤ 16) (hm : v5.toInt = m) (hm0 : m ≠ 0) (hm24 : m ≤ 24) : ∀ (n : Nat) (v6 : Int64) (v8 v9 : Int32) (i : Nat), v9.toInt = i + 1 → i ≤ kk → v6.toInt = PrN S r q m i → v8.toInt = Bd0 S r q i → kk - i < n → ∃ X : Int64, X.toInt = PrN S r q m kk ∧ f_X3_putPreference_47 n M fi (10 + q) (34 + 4 * q + r) k v4 v5 v6 v8 v9 = f_X1_become M fi X (v5.toInt64 * v4.toInt64)
  | 0, _, _, _, _, _, _, _, _, h => absurd h (by omega)
  | n + 1, v6, v8, v9, i, h9, hi, h6, h8, hn => by
    rw [f_X3_putPreference_47]
    simp only [bnd_eq]
    rcases Nat.eq_or_lt_of_le hi with z | z
    · rw [if_pos (show k < v9 from Int32.lt_iff_toInt_lt.mpr (by omega))]
      exact ⟨v6, by rw [h6, z], rfl⟩
    · have e := kpg ho hK hr hq h9 (by omega)
      have hp := pg_rg ho r q i
      have qv := inc_sp v9
      have qw := inc_sp v8
      have hc : Bd0 S r q i ≤ i := cnt_le _ i
      have hb := PrN_bd S r q hm24 (k := i) (by omega)
      rw [if_neg (show ¬ k < v9 from fun c => by have t := i_lt c; omega)]
      generalize f_X6_gradeOf M (10 + q) (f_X7_documentAt M (34 + 4 * q + r) v9) = g at *
      by_cases c0 : g = 0
      · subst c0
        have p0 : pg S r q i = 0 := by rw [← e]; rfl
        rw [if_pos rfl]
        exact kPr_47 ho hK hr hq hk h16 hm hm0 hm24 n v6 (v8 + 1) (v9 + 1) (i + 1) (by omega) (by omega) (by unfold PrN; rw [sm]; unfold prw; rw [if_neg (by omega), Int.add_zero]; exact h6) (by unfold Bd0; rw [cnt, if_pos (by simp; exact p0)]; show _ = ((Bd0 S r q i + 1 : Nat) : Int); omega) (by omega)
      · have p0 : ¬ pg S r q i = 0 := fun z => c0 (i_ext (by rw [e, z]; rfl))
        rw [if_neg c0]
        have hb0 : Bd0 S r q (i + 1) = Bd0 S r q i := by unfold Bd0; rw [cnt, if_neg (by simp; exact p0)]; rfl
        by_cases c1 : g < 1
        · have t : g.toInt < 1 := i_lt c1
          rw [if_pos c1]
          exact kPr_47 ho hK hr hq hk h16 hm hm0 hm24 n v6 v8 (v9 + 1) (i + 1) (by omega) (by omega) (by unfold PrN; rw [sm]; unfold prw; rw [if_neg (by omega), Int.add_zero]; exact h6) (by rw [hb0]; exact h8) (by omega)
        · have t : 1 ≤ g.toInt := i_nlt c1
          rw [if_neg c1]
          obtain ⟨r18, e18, h18⟩ : ∃ r18 : Int32, (if v5 < v8 then v5 else v8) = r18 ∧ r18.toInt = (min m (Bd0 S r q i) : Nat) := by
            refine ⟨_, rfl, ?_⟩
            by_cases c2 : v5 < v8
            · have t2 := i_lt c2
              rw [if_pos c2]; omega
            · have t2 := i_nlt c2
              rw [if_neg c2]; omega
          rw [e18]
          have ew : prw S r q m i = (m : Int) - ((min m (Bd0 S r q i) : Nat) : Int) := by unfold prw; rw [if_pos (by omega), if_neg hm0]
          have e3 : ((v5 - r18).toInt64).toInt = prw S r q m i := by rw [i2l_ti, i_sub (by omega) (by omega), ew]; omega
          have hw := prw_bd S r q hm24 i
          have e4 : (v6 + (v5 - r18).toInt64).toInt = PrN S r q m (i + 1) := by
            rw [l_add (by rw [e3]; omega) (by rw [e3]; omega), e3, h6]; rfl
          exact kPr_47 ho hK hr hq hk h16 hm hm0 hm24 n _ v8 (v9 + 1) (i + 1) (by omega) (by omega) e4 (by rw [hb0]; exact h8) (by omega)
theorem Mm_k (hK : AbK S M) {q : Nat} (hq : q < 8) : (if f_X6_gradedWith M (10 + q) 0 < f_X6_goodOnes M (10 + q) then f_X6_gradedWith M (10 + q) 0 else f_X6_goodOnes M (10 + q)).toInt = Mm S q := by
  have e1 := kGood hK hq
  have e2 := kGw hK hq 0
  rw [show (0 : Int32).toInt = 0 from rfl] at e2
  generalize f_X6_gradedWith M (10 + q) 0 = x at *
  generalize f_X6_goodOnes M (10 + q) = y at *
  unfold Mm
  by_cases c : x < y
  · have t := i_lt c
    rw [if_pos c]; omega
  · have t := i_nlt c
    rw [if_neg c]; omega
def PrV (S : Ab) (r q k : Nat) : Int × Int := rd (PrN S r q (Mm S q) k) (((if Mm S q = 0 then 1 else Mm S q : Nat) : Int) * (Rg S q : Nat))
theorem kPr (ho : okA S) (hK : AbK S M) {r q fi : Nat} (hr : r < 4) (hq : q < 8) {k : Int32} {kk : Nat} (hk : k.toInt = kk) (h16 : kk ≤ 16) : isB M (f_X3_putPreference M fi (10 + q) (34 + 4 * q + r) k) fi (PrV S r q kk) := by
  have em := Mm_k hK hq
  have eg := kGood hK hq
  have ea := kGa ho hK hr hq hk h16
  have hR := Rg_le S q
  have hG : Gd S r q kk ≤ kk := cnt_le _ kk
  have hm24 := Mm_le S q
  unfold f_X3_putPreference
  simp only [bnd_eq]
  generalize (if f_X6_gradedWith M (10 + q) 0 < f_X6_goodOnes M (10 + q) then f_X6_gradedWith M (10 + q) 0 else f_X6_goodOnes M (10 + q)) = r3 at *
  generalize f_X6_goodOnes M (10 + q) = r1 at *
  unfold PrV
  by_cases c : r3 = 0
  · subst c
    have m0 : Mm S q = 0 := by have : (0 : Int32).toInt = 0 := rfl; omega
    rw [if_pos rfl, m0, PrN_0, if_pos rfl]
    generalize f_X3_goodAmong M (10 + q) (34 + 4 * q + r) k = r25 at *
    refine ⟨r25.toInt64, r1.toInt64, rfl, by rw [i2l_ti, ea]; omega, ?_⟩
    rw [i2l_ti, i2l_ti, ea, eg]
    congr 1
    omega
  · have m0 : ¬ Mm S q = 0 := fun z => c (i_ext (by rw [em, z]; rfl))
    rw [if_neg c, if_neg m0]
    obtain ⟨X, hX, E⟩ := kPr_47 ho hK (fi := fi) hr hq (v4 := r1) (v5 := r3) hk h16 em m0 hm24 ((k.toInt - 1 + 1 : Int).toNat + 1) 0 0 1 0 rfl (by omega) rfl rfl (by omega)
    have hb := PrN_bd S r q hm24 h16
    refine ⟨X, r3.toInt64 * r1.toInt64, E, by omega, ?_⟩
    have a1 : 0 ≤ (Mm S q : Int) * (Rg S q : Nat) := Int.mul_nonneg (by omega) (by omega)
    have a2 : (Mm S q : Int) * (Rg S q : Nat) ≤ 24 * 24 := Int.mul_le_mul (by omega) (by omega) (by omega) (by decide)
    rw [hX, l_mul (by rw [i2l_ti, i2l_ti, em, eg]; omega) (by rw [i2l_ti, i2l_ti, em, eg]; omega), i2l_ti, i2l_ti, em, eg]
theorem mPr_40 (ho : okA S) (hM : AbM S M) {r q k v4 : Int32} (hr : 0 ≤ r.toInt ∧ r.toInt < 4) (hq : 0 ≤ q.toInt ∧ q.toInt < 8) {kk m : Nat} (hk : k.toInt = kk) (hm : v4.toInt = m) (hm24 : m ≤ 24) : ∀ (n : Nat) (v5 : Int64) (v7 v8 : Int32) (i : Nat), v8.toInt = i → i ≤ min (S.2.1 (nn r) (nn q)) kk → v5.toInt = PrN S (nn r) (nn q) m i → v7.toInt = Bd0 S (nn r) (nn q) i → 16 - i < n →
    isM M (f_X9_preference_40 n M r q k v4 v5 v7 v8) (rd (PrN S (nn r) (nn q) m (min (S.2.1 (nn r) (nn q)) kk)) (((if m = 0 then 1 else m : Nat) : Int) * (Rg S (nn q) : Nat)))
  | 0, _, _, _, _, _, _, _, _, h => absurd h (by omega)
  | n + 1, v5, v7, v8, i, h8, hi, h5, h7, hn => by
    rw [f_X9_preference_40]
    simp only [bnd_eq]
    have ef := mFirst hM hr hq hk
    have h16 := ho.2.1 (nn r) (nn q)
    have hb := PrN_bd S (nn r) (nn q) hm24 (k := i) (by omega)
    have hR := Rg_le S (nn q)
    rcases Nat.eq_or_lt_of_le hi with z | z
    · rw [if_pos (show f_X9_first M r q k ≤ v8 from Int32.le_iff_toInt_le.mpr (by omega)), ← z]
      by_cases c : v4 = 0
      · subst c
        have m0 : m = 0 := by have : (0 : Int32).toInt = 0 := rfl; omega
        subst m0
        rw [if_pos rfl, if_pos rfl]
        have m1 := mkG (M := M) (a := v5) (b := 1) (by omega) (by decide)
        have er := mRs ho (hM.of1 (fr_make M v5 1).1) hq
        rw [h5, show (1 : Int64).toInt = 1 from rfl] at m1
        have hl := rd_1abs (PrN S (nn r) (nn q) 0 i) (D := 1) (by decide)
        have R := ovG (M := f_X9_make M v5 1) (n := (f_X9_rs (f_X9_make M v5 1) q).toInt64) (by decide) m1.1 m1.2 (by rw [i2l_ti, er]; omega) (by rw [m1.1]; omega) (by rw [i2l_ti, er]; omega)
        rw [i2l_ti, er] at R
        exact R
      · have m0 : ¬ m = 0 := fun y => c (i_ext (by rw [hm, y]; rfl))
        rw [if_neg c, if_neg m0]
        have m1 := mkG (M := M) (a := v5) (b := v4.toInt64) (by omega) (by rw [i2l_ti]; omega)
        have er := mRs ho (hM.of1 (fr_make M v5 v4.toInt64).1) hq
        rw [h5, i2l_ti, hm] at m1
        have hl := rd_1abs (PrN S (nn r) (nn q) m i) (D := m) (by omega)
        have a2 : (m : Int) * (Rg S (nn q) : Nat) ≤ 24 * 24 := Int.mul_le_mul (by omega) (by omega) (by omega) (by decide)
        have R := ovG (M := f_X9_make M v5 v4.toInt64) (n := (f_X9_rs (f_X9_make M v5 v4.toInt64) q).toInt64) (by omega) m1.1 m1.2 (by rw [i2l_ti, er]; omega) (by rw [m1.1]; omega) (by rw [i2l_ti, er]; omega)
        rw [i2l_ti, er] at R
        exact R
    · have e := mpg ho hM hr hq h8 (by omega)
      have hp := pg_rg ho (nn r) (nn q) i
      have qv := inc_sp v8
      have qw := inc_sp v7
      have hc : Bd0 S (nn r) (nn q) i ≤ i := cnt_le _ i
      rw [if_neg (show ¬ f_X9_first M r q k ≤ v8 from fun c => by have t := i_le c; omega)]
      simp only [i_add0]
      generalize f_X9_gradeOf M q (f_X9_doc M r q v8) = g at *
      generalize f_X9_first M r q k = fs at *
      by_cases c1 : g ≤ 0
      · have t : g.toInt ≤ 0 := i_le c1
        rw [if_pos c1]
        have hs : PrN S (nn r) (nn q) m (i + 1) = PrN S (nn r) (nn q) m i := by unfold PrN; rw [sm]; unfold prw; rw [if_neg (by omega), Int.add_zero]
        by_cases c0 : g = 0
        · subst c0
          have p0 : pg S (nn r) (nn q) i = 0 := by rw [← e]; rfl
          rw [if_pos rfl]
          exact mPr_40 ho hM hr hq hk hm hm24 n v5 (v7 + 1) (v8 + 1) (i + 1) (by omega) (by omega) (by rw [hs]; exact h5) (by unfold Bd0; rw [cnt, if_pos (by simp; exact p0)]; show _ = ((Bd0 S (nn r) (nn q) i + 1 : Nat) : Int); omega) (by omega)
        · have p0 : ¬ pg S (nn r) (nn q) i = 0 := fun z => c0 (i_ext (by rw [e, z]; rfl))
          rw [if_neg c0]
          exact mPr_40 ho hM hr hq hk hm hm24 n v5 v7 (v8 + 1) (i + 1) (by omega) (by omega) (by rw [hs]; exact h5) (by unfold Bd0; rw [cnt, if_neg (by simp; exact p0)]; exact h7) (by omega)
      · have t : 0 < g.toInt := i_nle c1
        have c0 : ¬ g = 0 := fun y => by rw [y] at t; exact absurd t (by decide)
        have hb0 : Bd0 S (nn r) (nn q) (i + 1) = Bd0 S (nn r) (nn q) i := by unfold Bd0; rw [cnt, if_neg (by simp; omega)]; rfl
        rw [if_neg c1, if_neg c0, if_neg c0, if_neg c0]
        have hw := prw_bd S (nn r) (nn q) hm24 i
        have fin : ∀ X : Int64, X.toInt = prw S (nn r) (nn q) m i → isM M (f_X9_preference_40 n M r q k v4 (v5 + X) v7 (v8 + 1)) (rd (PrN S (nn r) (nn q) m (min (S.2.1 (nn r) (nn q)) kk)) (((if m = 0 then 1 else m : Nat) : Int) * (Rg S (nn q) : Nat))) := by
          intro X hX
          exact mPr_40 ho hM hr hq hk hm hm24 n _ v7 (v8 + 1) (i + 1) (by omega) (by omega) (by rw [l_add (by rw [hX]; omega) (by rw [hX]; omega), hX, h5]; rfl) (by rw [hb0]; exact h7) (by omega)
        by_cases c : v4 = 0
        · have m0 : m = 0 := by rw [c] at hm; have : (0 : Int32).toInt = 0 := rfl; omega
          rw [if_pos c]
          exact fin 1 (by unfold prw; rw [if_pos (by omega), if_pos m0]; rfl)
        · have m0 : ¬ m = 0 := fun y => c (i_ext (by rw [hm, y]; rfl))
          rw [if_neg c]
          by_cases c2 : v4 ≤ v7
          · have t2 := i_le c2
            rw [if_pos c2]
            exact fin _ (by unfold prw; rw [if_pos (by omega), if_neg m0, i2l_ti, i_sub (by omega) (by omega)]; omega)
          · have t2 := i_nle c2
            rw [if_neg c2]
            exact fin _ (by unfold prw; rw [if_pos (by omega), if_neg m0, i2l_ti, i_sub (by omega) (by omega)]; omega)
theorem mPr (ho : okA S) (hM : AbM S M) {r q k : Int32} (hr : 0 ≤ r.toInt ∧ r.toInt < 4) (hq : 0 ≤ q.toInt ∧ q.toInt < 8) {kk : Nat} (hk : k.toInt = kk) : isM M (f_X9_preference M r q k) (PrV S (nn r) (nn q) kk) := by
  have e1 := mRs ho hM hq
  have e2 := mGw ho hM hq 0
  rw [show (0 : Int32).toInt = 0 from rfl] at e2
  have hm24 := Mm_le S (nn q)
  unfold f_X9_preference PrV
  simp only [bnd_eq]
  rw [PrN_cut]
  generalize f_X9_graded M q 0 0 = x at *
  generalize f_X9_rs M q = y at *
  have T : ∀ v4 : Int32, v4.toInt = Mm S (nn q) → isM M (f_X9_preference_40 17 M r q k v4 0 0 0) (rd (PrN S (nn r) (nn q) (Mm S (nn q)) (min (S.2.1 (nn r) (nn q)) kk)) (((if Mm S (nn q) = 0 then 1 else Mm S (nn q) : Nat) : Int) * (Rg S (nn q) : Nat))) := fun v4 h4 => mPr_40 ho hM hr hq hk h4 hm24 17 0 0 0 0 rfl (by omega) rfl rfl (by omega)
  by_cases c : x ≤ y
  · have t := i_le c
    rw [if_pos c]
    exact T x (by unfold Mm; omega)
  · have t := i_nle c
    rw [if_neg c]
    exact T y (by unfold Mm; omega)
end PR
