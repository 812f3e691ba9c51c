/-! 85: gain -/
def lg (i : Nat) : Int64 := f_X9_log (Int32.ofNat (i + 2))
theorem lg_ok : ∀ i, i < 16 → f_X2_logOf (Int32.ofNat (i + 2)) = lg i ∧ 0 < lg i := by decide +kernel
theorem lg_0 : ∀ i, i < 16 → ((0 : Int64) <<< ((40 : Int32).toInt64 &&& 63)) / (lg i + 1) = 0 ∧ ((((0 : Int64) <<< ((40 : Int32).toInt64 &&& 63)) + lg i) - 1) / lg i = 0 := by decide +kernel
theorem on_ti : ∀ i, i < 16 → (Int32.ofNat (i + 2)).toInt = (i : Int) + 2 := by decide
def tm (a : Int32) (p : Int) (i : Nat) : Int64 := if a = 0 then ((Int64.ofInt (wt p)) <<< ((40 : Int32).toInt64 &&& 63)) / (lg i + 1) else ((((Int64.ofInt (wt p)) <<< ((40 : Int32).toInt64 &&& 63)) + lg i) - 1) / lg i
theorem tm_0 (a : Int32) {p : Int} (hp : p ≤ 0) {i : Nat} (hi : i < 16) : tm a p i = 0 := by
  unfold tm
  rw [wt_neg hp, show Int64.ofInt 0 = 0 from rfl]
  split
  · exact (lg_0 i hi).1
  · exact (lg_0 i hi).2
def gs (S : Ab) (r q : Nat) (a : Int32) : Nat → Int64
  | 0 => 0
  | k + 1 => gs S r q a k + tm a (pg S r q k) k
theorem gs_cut (S : Ab) (r q : Nat) (a : Int32) : ∀ k, k ≤ 16 → gs S r q a k = gs S r q a (min (S.2.1 r q) k)
  | 0, _ => by rw [Nat.min_zero]
  | k + 1, h => by
    rcases Nat.lt_or_ge k (S.2.1 r q) with z | z
    · rw [Nat.min_eq_right (by omega)]
    · rw [Nat.min_eq_left (by omega), gs, pg_out z, tm_0 a (by decide) (by omega), gs_cut S r q a k (by omega), Nat.min_eq_left z, Int64.add_zero]
theorem kWo {x : Int32} (h : -1 ≤ x.toInt ∧ x.toInt ≤ 3) : f_X3_weightOf x = Int64.ofInt (wt x.toInt) := by
  rcases i_cases5 h with z | z | z | z | z <;> subst z <;> decide
theorem mWo {x : Int32} (h : 1 ≤ x.toInt ∧ x.toInt ≤ 3) : (f_X9_worth x).toInt64 = Int64.ofInt (wt x.toInt) := by
  rw [← kWo ⟨by omega, h.2⟩]
  exact l_ext (by rw [i2l_ti, mW h, kW ⟨by omega, h.2⟩])
section GA
variable {S : Ab} {M : Mem}
theorem kGs_6 (ho : okA S) (hK : AbK S M) {r q : Nat} (hr : r < 4) (hq : q < 8) {k a : Int32} {kk : Nat} (hk : k.toInt = kk) (h16 : kk ≤ 16) : ∀ (n : Nat) (x : Int64) (v : Int32) (i : Nat), v.toInt = i + 1 → i ≤ kk → x = gs S r q a i → kk - i < n → f_X2_gainOf_6 n M (10 + q) (34 + 4 * q + r) k a x v = gs S r q a kk
  | 0, _, _, _, _, _, _, h => absurd h (by omega)
  | n + 1, x, v, i, hv, hi, hx, hn => by
    rw [f_X2_gainOf_6]
    simp only [bnd_eq]
    rcases Nat.eq_or_lt_of_le hi with z | z
    · rw [if_pos (show k < v from Int32.lt_iff_toInt_lt.mpr (by omega)), hx, z]
    · have e := kpg ho hK hr hq hv (by omega)
      have qv := inc_sp v
      have hp := pg_rg ho r q i
      rw [if_neg (show ¬ k < v from fun c => by have t := i_lt c; omega)]
      generalize f_X6_gradeOf M (10 + q) (f_X7_documentAt M (34 + 4 * q + r) v) = g at *
      have ev : v + 1 = Int32.ofNat (i + 2) := i_ext (by rw [on_ti i (by omega)]; omega)
      have hl := lg_ok i (by omega)
      have hl1 : f_X2_logOf (v + 1) = lg i := by rw [ev]; exact hl.1
      have hg := kWo (x := g) (by rw [e]; exact hp)
      rw [e] at hg
      rw [hl1, hg, if_neg (show ¬ lg i ≤ 0 from fun c => by have t := l_le c; have t2 := l_lt hl.2; omega)]
      have ih := kGs_6 ho hK hr hq (a := a) hk h16 n (x + tm a (pg S r q i) i) (v + 1) (i + 1) (by omega) (by omega) (by rw [hx]; rfl) (by omega)
      unfold tm at ih
      by_cases c : a = 0
      · rw [if_pos c] at ih ⊢; exact ih
      · rw [if_neg c] at ih ⊢; exact ih
theorem kGs (ho : okA S) (hK : AbK S M) {r q : Nat} (hr : r < 4) (hq : q < 8) {k a : Int32} {kk : Nat} (hk : k.toInt = kk) (h16 : kk ≤ 16) : f_X2_gainOf M (10 + q) (34 + 4 * q + r) k a = gs S r q a kk := kGs_6 ho hK hr hq hk h16 _ 0 1 0 rfl (by omega) rfl (by omega)
theorem mGs_30 (ho : okA S) (hM : AbM S M) {r q k a : Int32} (hr : 0 ≤ r.toInt ∧ r.toInt < 4) (hq : 0 ≤ q.toInt ∧ q.toInt < 8) {kk : Nat} (hk : k.toInt = kk) : ∀ (n : Nat) (x : Int64) (v : Int32) (i : Nat), v.toInt = i → i ≤ min (S.2.1 (nn r) (nn q)) kk → x = gs S (nn r) (nn q) a i → 16 - i < n → f_X9_gain_30 n M r q k a x v = gs S (nn r) (nn q) a (min (S.2.1 (nn r) (nn q)) kk)
  | 0, _, _, _, _, _, _, h => absurd h (by omega)
  | n + 1, x, v, i, hv, hi, hx, hn => by
    rw [f_X9_gain_30]
    simp only [bnd_eq]
    have ef := mFirst hM hr hq hk
    have h16 := ho.2.1 (nn r) (nn q)
    generalize f_X9_first M r q k = fs at *
    rcases Nat.eq_or_lt_of_le hi with z | z
    · rw [if_pos (show fs ≤ v from Int32.le_iff_toInt_le.mpr (by omega)), hx, z]
    · have e := mpg ho hM hr hq hv (by omega)
      have qv := inc_sp v
      have hp := pg_rg ho (nn r) (nn q) i
      rw [if_neg (show ¬ fs ≤ v from fun c => by have t := i_le c; omega), mIsGood]
      generalize f_X9_gradeOf M q (f_X9_doc M r q v) = g at *
      have ih := mGs_30 ho hM hr hq (a := a) hk n (x + tm a (pg S (nn r) (nn q) i) i) (v + 1) (i + 1) (by omega) (by omega) (by rw [hx]; rfl) (by omega)
      by_cases c : g.toInt ≤ 0
      · rw [if_pos c, if_pos rfl]
        rw [tm_0 a (by omega) (by omega), Int64.add_zero] at ih
        exact ih
      · rw [if_neg c, if_neg (show ¬ (1 : Int32) = 0 by decide)]
        have e2 : (2 : Int32).toInt = 2 := rfl
        have ev : v + 2 = Int32.ofNat (i + 2) := i_ext (by rw [on_ti i (by omega), i_add (by omega) (by omega), e2]; omega)
        have hl1 : f_X9_log (v + 2) = lg i := by rw [ev]; rfl
        have hg := mWo (x := g) (by omega)
        rw [e] at hg
        rw [hl1, hg]
        unfold tm at ih
        by_cases c : a = 0
        · rw [if_pos c] at ih ⊢; exact ih
        · rw [if_neg c] at ih ⊢; exact ih
end GA
theorem eq_gain {M1 M2 : Mem} (a b c d : Int32) (h : Rel M1 M2) : f_X8_gain M1 a b c d = f_X9_gain M2 a b c d := by
  obtain ⟨S, ho, hK, hM, hB⟩ := id h
  unfold f_X8_gain f_X9_gain
  simp only [bnd_eq]
  by_cases hin : (0 ≤ a.toInt ∧ a.toInt < 4) ∧ (0 ≤ b.toInt ∧ b.toInt < 8)
  · obtain ⟨hr, hq⟩ := hin
    have hrn : nn a < 4 := nn_lt hr.1 (by omega)
    have hqn : nn b < 8 := nn_lt hq.1 (by omega)
    rw [qO_in hq, oc_some]
    cases ht : S.2.2.1 (nn a) (nn b)
    · rw [rO_f hK hr hq ht, mRow_f hM hr hq ht, oc_none, if_pos rfl]
    · rw [rO_t hK hr hq ht, mRow_t hM hr hq ht, oc_some, if_neg (show ¬ (1 : Int32) = 0 by decide), isDp, isDp2]
      by_cases hd : 1 ≤ c.toInt ∧ c.toInt ≤ 16
      · rw [if_pos hd, if_neg (show ¬ (1 : Int32) = 0 by decide), if_neg (show ¬ (1 : Int32) = 0 by decide)]
        have hk : c.toInt = (nn c : Nat) := (nn_ti (by omega)).symm
        rw [kGs ho hK hrn hqn hk (by omega), mGs_30 ho hM hr hq hk 17 0 0 0 rfl (by omega) rfl (by omega), gs_cut S _ _ d _ (by omega)]
      · rw [if_neg hd, if_pos rfl, if_pos rfl]
  · rw [rO_out hin, mRow_out hin, if_pos rfl]
    cases f_X8_questionOf b with
    | none => rfl
    | some i => rfl
