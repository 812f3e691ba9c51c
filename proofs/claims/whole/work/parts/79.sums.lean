/-! 79: sums over places: AVERAGE, GAIN -/
def sm (w : Nat → Int) : Nat → Int
  | 0 => 0
  | k + 1 => sm w k + w k
theorem sm_bd {w : Nat → Int} {B : Int} : ∀ k, (∀ i, i < k → 0 ≤ w i ∧ w i ≤ B) → 0 ≤ sm w k ∧ sm w k ≤ k * B
  | 0, _ => ⟨Int.le_refl _, by rw [sm]; simp⟩
  | k + 1, h => by
    have h1 := sm_bd k (fun i hi => h i (by omega))
    have h2 := h k (by omega)
    rw [sm]
    have e : ((k + 1 : Nat) : Int) * B = k * B + B := by push_cast; rw [Int.add_mul, Int.one_mul]
    omega
theorem sm_cut {w : Nat → Int} {n : Nat} (h : ∀ i, n ≤ i → w i = 0) : ∀ k, sm w k = sm w (min n k)
  | 0 => by rw [Nat.min_zero]
  | k + 1 => by
    rcases Nat.lt_or_ge k n with z | z
    · rw [Nat.min_eq_right (by omega)]
    · rw [Nat.min_eq_left (by omega), sm, h k z, sm_cut h k, Nat.min_eq_left z, Int.add_zero]
theorem sm_congr {v w : Nat → Int} : ∀ k, (∀ i, i < k → v i = w i) → sm v k = sm w k
  | 0, _ => rfl
  | k + 1, h => by rw [sm, sm, sm_congr k (fun i hi => h i (by omega)), h k (by omega)]
theorem dvdP : ∀ i, i < 16 → (i + 1) ∣ 720720 := by decide
theorem dvdPi {i : Nat} (h : i < 16) : ((i : Int) + 1) ∣ 720720 := by
  have := Int.ofNat_dvd.mpr (dvdP i h)
  exact this
theorem divP_bd {i : Nat} (h : i < 16) : 1 ≤ (720720 : Int) / ((i : Int) + 1) ∧ (720720 : Int) / ((i : Int) + 1) ≤ 720720 := by
  have h1 := dvdPi h
  obtain ⟨c, hc⟩ := h1
  have e : (720720 : Int) / ((i : Int) + 1) = c := by rw [hc]; exact Int.mul_ediv_cancel_left _ (by omega)
  rw [e]
  have hc0 : 0 < c := by
    rcases Int.lt_or_le 0 c with q | q
    · exact q
    · have := Int.mul_nonpos_of_nonneg_of_nonpos (show (0 : Int) ≤ (i : Int) + 1 by omega) q
      omega
  have := Int.mul_le_mul_of_nonneg_right (show (1 : Int) ≤ (i : Int) + 1 by omega) (Int.le_of_lt hc0)
  omega
theorem kdivP {v : Int32} {i : Nat} (hv : v.toInt = i + 1) : ((720720 : Int64) / v.toInt64).toInt = 720720 / ((i : Int) + 1) := by
  rw [l_div (by rw [i2l_ti]; omega), i2l_ti, hv, Int.tdiv_eq_ediv_of_nonneg (by decide)]
  rfl
theorem AbM.of1 {S : Ab} {M M' : Mem} (h : AbM S M) (e : M'.1 = M.1) : AbM S M' := by unfold AbM at *; rw [e]; exact h
theorem AbK.of1 {S : Ab} {M M' : Mem} (h : AbK S M) (e : M'.1 = M.1) : AbK S M' := by unfold AbK at *; rw [e]; exact h
def avw (S : Ab) (r q i : Nat) : Int := if 1 ≤ pg S r q i then ((Gd S r q i : Int) + 1) * (720720 / ((i : Int) + 1)) else 0
def AvN (S : Ab) (r q k : Nat) : Int := sm (avw S r q) k
theorem avw_bd (S : Ab) (r q : Nat) {i : Nat} (hi : i < 16) : 0 ≤ avw S r q i ∧ avw S r q i ≤ 12252240 := by
  unfold avw
  have h1 := divP_bd hi
  have h2 : Gd S r q i ≤ i := cnt_le _ i
  split
  · have a1 : 0 ≤ ((Gd S r q i : Int) + 1) * (720720 / ((i : Int) + 1)) := Int.mul_nonneg (by omega) (by omega)
    have a2 : ((Gd S r q i : Int) + 1) * (720720 / ((i : Int) + 1)) ≤ 17 * 720720 := Int.mul_le_mul (by omega) h1.2 (by omega) (by decide)
    omega
  · omega
theorem AvN_bd (S : Ab) (r q : Nat) {k : Nat} (hk : k ≤ 16) : 0 ≤ AvN S r q k ∧ AvN S r q k ≤ 196035840 := by
  have h := sm_bd (w := avw S r q) (B := 12252240) k (fun i hi => avw_bd S r q (by omega))
  have : (k : Int) * 12252240 ≤ 16 * 12252240 := Int.mul_le_mul_of_nonneg_right (by omega) (by decide)
  unfold AvN
  omega
theorem AvN_cut (S : Ab) (r q k : Nat) : AvN S r q k = AvN S r q (min (S.2.1 r q) k) := sm_cut (fun i h => by unfold avw; rw [pg_out h, if_neg (by decide)]) k
section SU
variable {S : Ab} {M : Mem}
theorem kAv_8 (ho : okA S) (hK : AbK S M) {r q : Nat} (hr : r < 4) (hq : q < 8) {k : Int32} {kk : Nat} (hk : k.toInt = kk) (h16 : kk ≤ 16) : ∀ (n : Nat) (x : Int64) (w v : Int32) (i : Nat), v.toInt = i + 1 → i ≤ kk → w.toInt = Gd S r q i → x.toInt = AvN S r q i → kk - i < n → (f_X3_averageParts_8 n M (10 + q) (34 + 4 * q + r) k x w v).toInt = AvN S r q kk
  | 0, _, _, _, _, _, _, _, _, h => absurd h (by omega)
  | n + 1, x, w, v, i, hv, hi, hw, hx, hn => by
    rw [f_X3_averageParts_8]
    simp only [bnd_eq]
    rcases Nat.eq_or_lt_of_le hi with z | z
    · rw [if_pos (show k < v from Int32.lt_iff_toInt_lt.mpr (by omega)), hx, z]
    · have e := kpg ho hK hr hq hv (by omega)
      have qv := inc_sp v
      have qw := inc_sp w
      have hc' : Gd S r q i ≤ i := cnt_le _ i
      have hb := AvN_bd S r q (k := i) (by omega)
      have hb2 := avw_bd S r q (i := i) (by omega)
      rw [if_neg (show ¬ k < v from fun c => by have t := i_lt c; omega), kIsGood, e]
      by_cases c : pg S r q i < 1
      · rw [if_pos c, if_pos rfl]
        exact kAv_8 ho hK hr hq hk h16 n x w (v + 1) (i + 1) (by omega) (by omega) (by rw [Gd, cnt, if_neg (by simp; omega)]; exact hw) (by unfold AvN at *; rw [sm, hx]; unfold avw; rw [if_neg (by omega), Int.add_zero]) (by omega)
      · rw [if_neg c, if_neg (show ¬ (1 : Int32) = 0 by decide)]
        have ew : avw S r q i = ((Gd S r q i : Int) + 1) * (720720 / ((i : Int) + 1)) := by unfold avw; rw [if_pos (by omega)]
        have e1 : ((w + 1).toInt64).toInt = (Gd S r q i : Int) + 1 := by rw [i2l_ti]; omega
        have e2 := kdivP hv
        have e3 : ((w + 1).toInt64 * (720720 / v.toInt64)).toInt = avw S r q i := by rw [l_mul (by rw [e1, e2, ← ew]; omega) (by rw [e1, e2, ← ew]; omega), e1, e2, ew]
        have e4 : (x + (w + 1).toInt64 * (720720 / v.toInt64)).toInt = AvN S r q (i + 1) := by
          rw [l_add (by rw [e3, hx]; omega) (by rw [e3, hx]; omega), e3, hx]; rfl
        exact kAv_8 ho hK hr hq hk h16 n _ (w + 1) (v + 1) (i + 1) (by omega) (by omega) (by rw [Gd, cnt, if_pos (by simp; omega)]; show _ = ((Gd S r q i + 1 : Nat) : Int); omega) e4 (by omega)
theorem kAv (ho : okA S) (hK : AbK S M) {r q : Nat} (hr : r < 4) (hq : q < 8) {k : Int32} {kk : Nat} (hk : k.toInt = kk) (h16 : kk ≤ 16) : (f_X3_averageParts M (10 + q) (34 + 4 * q + r) k).toInt = AvN S r q kk := kAv_8 ho hK hr hq hk h16 _ 0 0 1 0 rfl (by omega) rfl rfl (by omega)
theorem mAv_12 (ho : okA S) {r q k : Int32} (hr : 0 ≤ r.toInt ∧ r.toInt < 4) (hq : 0 ≤ q.toInt ∧ q.toInt < 8) {kk : Nat} (hk : k.toInt = kk) : ∀ (n : Nat) (M : Mem) (w v : Int32) (i : Nat), AbM S M → v.toInt = i → i ≤ min (S.2.1 (nn r) (nn q)) kk → w.toInt = Gd S (nn r) (nn q) i → (M.2 0 6).toInt = (rd (AvN S (nn r) (nn q) i) 720720).1 → (M.2 0 7).toInt = (rd (AvN S (nn r) (nn q) i) 720720).2 → 16 - i < n →
    ((f_X9_average_12 n M r q k w v).2 0 6).toInt = (rd (AvN S (nn r) (nn q) (min (S.2.1 (nn r) (nn q)) kk)) (720720 * Rg S (nn q))).1 ∧ ((f_X9_average_12 n M r q k w v).2 0 7).toInt = (rd (AvN S (nn r) (nn q) (min (S.2.1 (nn r) (nn q)) kk)) (720720 * Rg S (nn q))).2
  | 0, _, _, _, _, _, _, _, _, _, _, h => absurd h (by omega)
  | n + 1, M, w, v, i, hM, hv, hi, hw, h6, h7, hn => by
    rw [f_X9_average_12]
    simp only [bnd_eq]
    have ef := mFirst hM hr hq hk
    have h16 := ho.2.1 (nn r) (nn q)
    have hb := AvN_bd S (nn r) (nn q) (k := i) (by omega)
    rcases Nat.eq_or_lt_of_le hi with z | z
    · rw [if_pos (show f_X9_first M r q k ≤ v from Int32.le_iff_toInt_le.mpr (by omega))]
      have er := mRs ho hM hq
      have hR : Rg S (nn q) ≤ 24 := cnt_le _ 24
      have e1 : ((f_X9_rs M q).toInt64).toInt = (Rg S (nn q) : Int) := by rw [i2l_ti]; exact er
      have ha := rd_1abs (AvN S (nn r) (nn q) i) (D := 720720) (by decide)
      have R := ovG (M := M) (n := (f_X9_rs M q).toInt64) (by decide) h6 h7 (by rw [e1]; omega) (by rw [h6]; omega) (by rw [e1]; omega)
      rw [e1, z] at R
      exact R
    · have e := mpg ho hM hr hq hv (by omega)
      have qv := inc_sp v
      have qw := inc_sp w
      have hc : Gd S (nn r) (nn q) i ≤ i := cnt_le _ i
      have hb2 := avw_bd S (nn r) (nn q) (i := i) (by omega)
      rw [if_neg (show ¬ f_X9_first M r q k ≤ v from fun c => by have t := i_le c; omega), mIsGood, e]
      by_cases c : pg S (nn r) (nn q) i ≤ 0
      · rw [if_pos c, if_pos rfl]
        have ea : AvN S (nn r) (nn q) (i + 1) = AvN S (nn r) (nn q) i := by unfold AvN; rw [sm]; unfold avw; rw [if_neg (by omega), Int.add_zero]
        exact mAv_12 ho hr hq hk n M w (v + 1) (i + 1) hM (by omega) (by omega) (by rw [Gd, cnt, if_neg (by simp; omega)]; exact hw) (by rw [ea]; exact h6) (by rw [ea]; exact h7) (by omega)
      · rw [if_neg c, if_neg (show ¬ (1 : Int32) = 0 by decide)]
        have ew : avw S (nn r) (nn q) i = ((Gd S (nn r) (nn q) i : Int) + 1) * (720720 / ((i : Int) + 1)) := by unfold avw; rw [if_pos (by omega)]
        have e1 : ((w + 1).toInt64).toInt = (Gd S (nn r) (nn q) i : Int) + 1 := by rw [i2l_ti]; omega
        have e2 : (v.toInt64 + 1).toInt = (i : Int) + 1 := by
          have e0 := i2l_ti v
          have e9 : (1 : Int64).toInt = 1 := rfl
          rw [l_add (by rw [e0, e9]; omega) (by rw [e0, e9]; omega), e0, e9, hv]
        have hdp := divP_bd (i := i) (by omega)
        have R := plG (M := M) (a := (w + 1).toInt64) (c := v.toInt64 + 1) (N := AvN S (nn r) (nn q) i) (L := 720720) (by decide) (by decide) h6 h7 (by rw [e2]; omega) (by rw [e2]; exact dvdPi (by omega)) (by rw [e1, e2, ← Int.natAbs_mul, ← ew]; omega)
        rw [e1, e2, ← ew] at R
        exact mAv_12 ho hr hq hk n _ (w + 1) (v + 1) (i + 1) (hM.of1 (fr_plus _ _ _).1) (by omega) (by omega) (by rw [Gd, cnt, if_pos (by simp; omega)]; show _ = ((Gd S (nn r) (nn q) i + 1 : Nat) : Int); omega) R.1 R.2 (by omega)
theorem mAv (ho : okA S) (hM : AbM S M) {r q k : Int32} (hr : 0 ≤ r.toInt ∧ r.toInt < 4) (hq : 0 ≤ q.toInt ∧ q.toInt < 8) {kk : Nat} (hk : k.toInt = kk) :
    ((f_X9_average M r q k).2 0 6).toInt = (rd (AvN S (nn r) (nn q) kk) (720720 * Rg S (nn q))).1 ∧ ((f_X9_average M r q k).2 0 7).toInt = (rd (AvN S (nn r) (nn q) kk) (720720 * Rg S (nn q))).2 := by
  rw [AvN_cut]
  have m0 := mkG (M := M) (a := 0) (b := 1) (by decide) (by decide)
  have z0 : rd (0 : Int64).toInt (1 : Int64).toInt = rd (AvN S (nn r) (nn q) 0) 720720 := (show rd (0 : Int) 1 = rd 0 720720 by decide)
  rw [z0] at m0
  exact mAv_12 ho hr hq hk 17 _ 0 0 0 (hM.of1 (fr_make _ _ _).1) rfl (by omega) rfl m0.1 m0.2 (by omega)
end SU
