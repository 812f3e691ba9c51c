/-! 88a: overlap -/
/-- where row r2 has the document at place i of row r1 -/
def p2 (S : Ab) (r2 q : Nat) (a : Int) : Nat := fnd (S.2.2.2 r2 q) a 0 (S.2.1 r2 q)
theorem pp2_le (S : Ab) (r q : Nat) (a : Int) : p2 S r q a ≤ S.2.1 r q := by
  have := fnd_le (S.2.2.2 r q) a (S.2.1 r q) 0
  unfold p2
  omega
def shP (S : Ab) (r1 r2 q k i : Nat) : Bool := decide (p2 S r2 q (S.2.2.2 r1 q i) < min (S.2.1 r2 q) k)
def Sh (S : Ab) (r1 r2 q k : Nat) : Nat := cnt (shP S r1 r2 q k) (min (S.2.1 r1 q) k)
theorem Sh_le (S : Ab) (r1 r2 q k : Nat) : Sh S r1 r2 q k ≤ k := Nat.le_trans (cnt_le _ _) (Nat.min_le_right _ _)
def ovw (S : Ab) (r1 r2 q j : Nat) : Int := (Sh S r1 r2 q (j + 1) : Nat) * (720720 / ((j : Int) + 1))
def OvN (S : Ab) (r1 r2 q k : Nat) : Int := sm (ovw S r1 r2 q) k
theorem ovw_bd (S : Ab) (r1 r2 q : Nat) {j : Nat} (hj : j < 16) : 0 ≤ ovw S r1 r2 q j ∧ ovw S r1 r2 q j ≤ 720720 := by
  unfold ovw
  have h1 := divP_bd hj
  have h2 := Sh_le S r1 r2 q (j + 1)
  have e : ((j : Int) + 1) * (720720 / ((j : Int) + 1)) = 720720 := Int.mul_ediv_cancel' (dvdPi hj)
  have a1 : 0 ≤ ((Sh S r1 r2 q (j + 1) : Nat) : Int) * (720720 / ((j : Int) + 1)) := Int.mul_nonneg (by omega) (by omega)
  have a2 := Int.mul_le_mul_of_nonneg_right (show ((Sh S r1 r2 q (j + 1) : Nat) : Int) ≤ (j : Int) + 1 by omega) (show 0 ≤ (720720 : Int) / ((j : Int) + 1) by omega)
  omega
theorem OvN_bd (S : Ab) (r1 r2 q : Nat) {k : Nat} (hk : k ≤ 16) : 0 ≤ OvN S r1 r2 q k ∧ OvN S r1 r2 q k ≤ 11531520 := by
  have h := sm_bd (w := ovw S r1 r2 q) (B := 720720) k (fun i hi => ovw_bd S r1 r2 q (by omega))
  have : (k : Int) * 720720 ≤ 16 * 720720 := Int.mul_le_mul_of_nonneg_right (by omega) (by decide)
  unfold OvN
  omega
section OV
variable {S : Ab} {M : Mem}
theorem kHas (ho : okA S) (hK : AbK S M) {r q : Nat} (hr : r < 4) (hq : q < 8) {k a : Int32} {kk : Nat} (hk : k.toInt = kk) : f_X7_hasAmongFirst M (34 + 4 * q + r) k a = if p2 S r q a.toInt < min (S.2.1 r q) kk then 1 else 0 := by
  unfold f_X7_hasAmongFirst
  rw [bnd_eq]
  have e := kRank ho hK hr hq a
  have hl := pp2_le S r q a.toInt
  have ep : fnd (S.2.2.2 r q) a.toInt 0 (S.2.1 r q) = p2 S r q a.toInt := rfl
  rw [ep] at e
  generalize f_X7_rankOf M (34 + 4 * q + r) a = x at *
  by_cases c : p2 S r q a.toInt = S.2.1 r q
  · rw [if_pos c] at e
    rw [if_pos (show x ≤ 0 from Int32.le_iff_toInt_le.mpr (by rw [e]; decide)), if_neg (by omega)]
  · rw [if_neg c] at e
    rw [if_neg (show ¬ x ≤ 0 from fun z => by have t : x.toInt ≤ 0 := i_le z; omega)]
    by_cases c2 : k < x
    · have t := i_lt c2
      rw [if_pos c2, if_neg (by omega)]
    · have t := i_nlt c2
      rw [if_neg c2, if_pos (by omega)]
theorem kSh_5 (ho : okA S) (hK : AbK S M) {r1 r2 q : Nat} (hr1 : r1 < 4) (hr2 : r2 < 4) (hq : q < 8) {k : Int32} {kk : Nat} (hk : k.toInt = kk) (h16 : kk ≤ 16) : ∀ (n : Nat) (w v : Int32) (i : Nat), v.toInt = i + 1 → i ≤ min (S.2.1 r1 q) kk → w.toInt = (cnt (shP S r1 r2 q kk) i : Nat) → kk - i < n → (f_X5_sharedAmong_5 n M (34 + 4 * q + r1) (34 + 4 * q + r2) k w v).toInt = (Sh S r1 r2 q kk : Nat)
  | 0, _, _, _, _, _, _, h => absurd h (by omega)
  | n + 1, w, v, i, hv, hi, hw, hn => by
    rw [f_X5_sharedAmong_5]
    simp only [bnd_eq]
    have es := kSize hK hr1 hq
    generalize f_X7_size M (34 + 4 * q + r1) = sz at *
    have h16' := ho.2.1 r1 q
    rcases Nat.eq_or_lt_of_le hi with z | z
    · have fin : w.toInt = (Sh S r1 r2 q kk : Nat) := by rw [hw, z]; rfl
      by_cases c : k < v
      · rw [if_pos c]; exact fin
      · have t := i_nlt c
        rw [if_neg c, if_pos (show sz < v from Int32.lt_iff_toInt_lt.mpr (by omega))]; exact fin
    · have ed := kDoc ho hK hr1 hq (a := v) (by omega) (by omega)
      have qv := inc_sp v
      have qw := inc_sp w
      have hc := cnt_le (shP S r1 r2 q kk) i
      rw [if_neg (show ¬ k < v from fun c => by have t := i_lt c; omega), if_neg (show ¬ sz < v from fun c => by have t := i_lt c; omega), kHas ho hK hr2 hq hk, ed, show (v.toInt - 1).toNat = i by omega]
      by_cases c : p2 S r2 q (S.2.2.2 r1 q i) < min (S.2.1 r2 q) kk
      · rw [if_pos c, if_neg (show ¬ (1 : Int32) = 0 by decide)]
        exact kSh_5 ho hK hr1 hr2 hq hk h16 n (w + 1) (v + 1) (i + 1) (by omega) (by omega) (by rw [cnt, if_pos (by unfold shP; simp; omega)]; omega) (by omega)
      · rw [if_neg c, if_pos rfl]
        exact kSh_5 ho hK hr1 hr2 hq hk h16 n w (v + 1) (i + 1) (by omega) (by omega) (by rw [cnt, if_neg (by unfold shP; simp; omega)]; exact hw) (by omega)
theorem kSh (ho : okA S) (hK : AbK S M) {r1 r2 q : Nat} (hr1 : r1 < 4) (hr2 : r2 < 4) (hq : q < 8) {k : Int32} {kk : Nat} (hk : k.toInt = kk) (h16 : kk ≤ 16) : (f_X5_sharedAmong M (34 + 4 * q + r1) (34 + 4 * q + r2) k).toInt = (Sh S r1 r2 q kk : Nat) := kSh_5 ho hK hr1 hr2 hq hk h16 _ 0 1 0 rfl (by omega) rfl (by omega)
theorem kOv_6 (ho : okA S) (hK : AbK S M) {r1 r2 q fi : Nat} (hr1 : r1 < 4) (hr2 : r2 < 4) (hq : q < 8) {k : Int32} {kk : Nat} (hk : k.toInt = kk) (h16 : kk ≤ 16) : ∀ (n : Nat) (x : Int64) (v : Int32) (i : Nat), v.toInt = i + 1 → i ≤ kk → x.toInt = OvN S r1 r2 q i → kk - i < n → ∃ X : Int64, X.toInt = OvN S r1 r2 q kk ∧ f_X5_putOverlap_6 n M fi (34 + 4 * q + r1) (34 + 4 * q + r2) k x v = f_X1_become M fi X (720720 * k.toInt64)
  | 0, _, _, _, _, _, _, h => absurd h (by omega)
  | n + 1, x, v, i, hv, hi, hx, hn => by
    rw [f_X5_putOverlap_6]
    simp only [bnd_eq]
    rcases Nat.eq_or_lt_of_le hi with z | z
    · rw [if_pos (show k < v from Int32.lt_iff_toInt_lt.mpr (by omega))]
      exact ⟨x, by rw [hx, z], rfl⟩
    · have es := kSh ho hK hr1 hr2 hq (k := v) (kk := i + 1) (by omega) (by omega)
      generalize f_X5_sharedAmong M (34 + 4 * q + r1) (34 + 4 * q + r2) v = y at *
      have qv := inc_sp v
      have hb := OvN_bd S r1 r2 q (k := i) (by omega)
      have hb2 := ovw_bd S r1 r2 q (j := i) (by omega)
      have e2 := kdivP hv
      rw [if_neg (show ¬ k < v from fun c => by have t := i_lt c; omega)]
      have e3 : (y.toInt64 * (720720 / v.toInt64)).toInt = ovw S r1 r2 q i := by
        rw [l_mul (by rw [i2l_ti, es, e2]; show _ ≤ ovw S r1 r2 q i; omega) (by rw [i2l_ti, es, e2]; show ovw S r1 r2 q i < _; omega), i2l_ti, es, e2]; rfl
      exact kOv_6 ho hK hr1 hr2 hq hk h16 n _ (v + 1) (i + 1) (by omega) (by omega) (by rw [l_add (by rw [e3, hx]; omega) (by rw [e3, hx]; omega), e3, hx]; rfl) (by omega)
theorem mOv_53 (ho : okA S) (hM : AbM S M) (K : Int64 → Int32 × Mem) {r1 r2 q v4 v9 : Int32} {v5 v7 : Int64} (hr1 : 0 ≤ r1.toInt ∧ r1.toInt < 4) (hr2 : 0 ≤ r2.toInt ∧ r2.toInt < 4) (hq : 0 ≤ q.toInt ∧ q.toInt < 8) {kk : Nat} (hk : v9.toInt = kk) : ∀ (n : Nat) (w : Int64) (v : Int32) (i : Nat), v.toInt = i → i ≤ min (S.2.1 (nn r1) (nn q)) kk → w.toInt = (cnt (shP S (nn r1) (nn r2) (nn q) kk) i : Nat) → 16 - i < n → ∃ y : Int64, y.toInt = (Sh S (nn r1) (nn r2) (nn q) kk : Nat) ∧ f_X9_overlap_53 K n M r1 r2 q v4 v5 v7 v9 w v = K y
  | 0, _, _, _, _, _, _, h => absurd h (by omega)
  | n + 1, w, v, i, hv, hi, hw, hn => by
    rw [f_X9_overlap_53]
    simp only [bnd_eq]
    have ef := mFirst hM hr1 hq hk
    have ef2 := mFirst hM hr2 hq hk
    have h16 := ho.2.1 (nn r1) (nn q)
    rcases Nat.eq_or_lt_of_le hi with z | z
    · rw [if_pos (show f_X9_first M r1 q v9 ≤ v from Int32.le_iff_toInt_le.mpr (by omega))]
      exact ⟨w, by rw [hw, z]; rfl, rfl⟩
    · have e := mDoc ho hM hr1 hq (i := v) (by omega) (by omega)
      have ei : nn v = i := by have := nn_ti (a := v) (by omega); omega
      rw [ei] at e
      have em := mFind ho hM hr2 hq (f_X9_doc M r1 q v)
      rw [e] at em
      have ep : fnd (S.2.2.2 (nn r2) (nn q)) (S.2.2.2 (nn r1) (nn q) i) 0 (S.2.1 (nn r2) (nn q)) = p2 S (nn r2) (nn q) (S.2.2.2 (nn r1) (nn q) i) := rfl
      rw [ep] at em
      have qv := inc_sp v
      have hc := cnt_le (shP S (nn r1) (nn r2) (nn q) kk) i
      rw [if_neg (show ¬ f_X9_first M r1 q v9 ≤ v from fun c => by have t := i_le c; omega), Int64.add_zero]
      have z1 : (1 : Int64).toInt = 1 := rfl
      generalize f_X9_first M r2 q v9 = f2 at *
      generalize f_X9_find M r2 q (f_X9_doc M r1 q v) = f3 at *
      by_cases c : f2 ≤ f3
      · have t := i_le c
        rw [if_pos c]
        exact mOv_53 ho hM K hr1 hr2 hq hk n w (v + 1) (i + 1) (by omega) (by omega) (by rw [cnt, if_neg (by unfold shP; simp; omega)]; exact hw) (by omega)
      · have t := i_nle c
        rw [if_neg c]
        exact mOv_53 ho hM K hr1 hr2 hq hk n (w + 1) (v + 1) (i + 1) (by omega) (by omega) (by rw [cnt, if_pos (by unfold shP; simp; omega), l_add (by rw [hw, z1]; omega) (by rw [hw, z1]; omega), hw, z1]; omega) (by omega)
end OV
theorem mOv_40 {S : Ab} (ho : okA S) {r1 r2 q k : Int32} (hr1 : 0 ≤ r1.toInt ∧ r1.toInt < 4) (hr2 : 0 ≤ r2.toInt ∧ r2.toInt < 4) (hq : 0 ≤ q.toInt ∧ q.toInt < 8) {kk : Nat} (hk : k.toInt = kk) (h0 : 1 ≤ kk) (h16 : kk ≤ 16) : ∀ (n : Nat) (M : Mem) (v5 v7 : Int64) (v : Int32) (i : Nat), AbM S M → v.toInt = i + 1 → i ≤ kk → v5.toInt = (rd (OvN S (nn r1) (nn r2) (nn q) i) 720720).1 → v7.toInt = (rd (OvN S (nn r1) (nn r2) (nn q) i) 720720).2 → kk - i < n → ∃ M', f_X9_overlap_40 n M r1 r2 q k v5 v7 v = (1, f_X9_show M') ∧ M'.1 = M.1 ∧ isM M M' (rd (OvN S (nn r1) (nn r2) (nn q) kk) (720720 * kk))
  | 0, _, _, _, _, _, _, _, _, _, _, h => absurd h (by omega)
  | n + 1, M, v5, v7, v, i, hM, hv, hi, h5, h7, hn => by
    rw [f_X9_overlap_40]
    simp only [bnd_eq]
    have P0 : (0 : Int) < 720720 := by decide
    rcases Nat.eq_or_lt_of_le hi with z | z
    · rw [if_pos (show k < v from Int32.lt_iff_toInt_lt.mpr (by omega))]
      refine ⟨_, rfl, ((fr_make M v5 v7).tr (fr_over _ _)).1, ?_⟩
      have hb := OvN_bd S (nn r1) (nn r2) (nn q) (k := i) (by omega)
      have ha := rd_1abs (OvN S (nn r1) (nn r2) (nn q) i) P0
      have hp := rd_2pos (OvN S (nn r1) (nn r2) (nn q) i) P0
      have hx := rd_cross (OvN S (nn r1) (nn r2) (nn q) i) P0
      rw [← h5] at ha hx
      rw [← h7] at hp hx
      have m1 := mkG (M := M) (a := v5) (b := v7) (by omega) (by omega)
      have er : rd v5.toInt v7.toInt = rd (OvN S (nn r1) (nn r2) (nn q) i) 720720 := rd_eq hp P0 hx
      rw [er] at m1
      have m2 := ovG (M := f_X9_make M v5 v7) (n := k.toInt64) P0 m1.1 m1.2 (by rw [i2l_ti]; omega) (by rw [m1.1, ← h5]; omega) (by rw [i2l_ti]; omega)
      rw [i2l_ti, hk] at m2
      rw [← z] at m2 ⊢
      exact m2
    · rw [if_neg (show ¬ k < v from fun c => by have t := i_lt c; omega)]
      obtain ⟨y, hy, E⟩ := mOv_53 ho hM (fun y10 => f_X9_overlap_40 n (f_X9_plus (f_X9_make M y10 v.toInt64) v5 v7) r1 r2 q k ((f_X9_plus (f_X9_make M y10 v.toInt64) v5 v7).2 0 6) ((f_X9_plus (f_X9_make M y10 v.toInt64) v5 v7).2 0 7) (v + 1)) (v4 := k) (v5 := v5) (v7 := v7) hr1 hr2 hq (v9 := v) (kk := i + 1) (by omega) 17 0 0 0 rfl (by omega) rfl (by omega)
      rw [E]
      have hs := Sh_le S (nn r1) (nn r2) (nn q) (i + 1)
      have qv := inc_sp v
      have hb := OvN_bd S (nn r1) (nn r2) (nn q) (k := i) (by omega)
      have hb2 := ovw_bd S (nn r1) (nn r2) (nn q) (j := i) (by omega)
      have m1 := mkG (M := M) (a := y) (b := v.toInt64) (by omega) (by rw [i2l_ti]; omega)
      have er : rd y.toInt v.toInt64.toInt = rd (ovw S (nn r1) (nn r2) (nn q) i) 720720 := by
        rw [i2l_ti, hy, hv]
        refine rd_eq (by omega) P0 ?_
        have e : ((i : Int) + 1) * (720720 / ((i : Int) + 1)) = 720720 := Int.mul_ediv_cancel' (dvdPi (by omega))
        unfold ovw
        rw [Int.mul_assoc, Int.mul_comm (720720 / ((i : Int) + 1)) _, e]
      rw [er] at m1
      have hp := rd_2pos (OvN S (nn r1) (nn r2) (nn q) i) P0
      have hd := rd_2dvd (OvN S (nn r1) (nn r2) (nn q) i) P0
      have hx := rd_cross (OvN S (nn r1) (nn r2) (nn q) i) P0
      rw [← h5] at hx
      rw [← h7] at hp hx hd
      have eN : v5.toInt * (720720 / v7.toInt) = OvN S (nn r1) (nn r2) (nn q) i := by
        obtain ⟨x, hx2⟩ := hd
        have e1 : (720720 : Int) / v7.toInt = x := by rw [hx2]; exact Int.mul_ediv_cancel_left _ (by omega)
        rw [e1]
        have e2 : v5.toInt * x * v7.toInt = OvN S (nn r1) (nn r2) (nn q) i * v7.toInt := by
          rw [← hx, hx2]
          simp only [Int.mul_comm, Int.mul_left_comm, Int.mul_assoc]
        exact Int.eq_of_mul_eq_mul_right (by omega) e2
      have Pl := plG (M := f_X9_make M y v.toInt64) (a := v5) (c := v7) (N := ovw S (nn r1) (nn r2) (nn q) i) (L := 720720) P0 (by decide) m1.1 m1.2 hp hd (by rw [← Int.natAbs_mul, eN]; omega)
      rw [eN, Int.add_comm] at Pl
      have f := (fr_make M y v.toInt64).tr (fr_plus (f_X9_make M y v.toInt64) v5 v7)
      obtain ⟨M', e1, e2, e3⟩ := mOv_40 ho hr1 hr2 hq hk h0 h16 n _ _ _ (v + 1) (i + 1) (hM.of1 f.1) (by omega) (by omega) Pl.1 Pl.2 (by omega)
      exact ⟨M', e1, e2.trans f.1, e3⟩
theorem eq_overlap {M1 M2 : Mem} (a b c d : Int32) (h : Rel M1 M2) : (f_X8_overlap M1 a b c d).1 = (f_X9_overlap M2 a b c d).1 ∧ Rel (f_X8_overlap M1 a b c d).2 (f_X9_overlap M2 a b c d).2 := by
  obtain ⟨S, ho, hK, hM, hB⟩ := id h
  unfold f_X8_overlap f_X9_overlap
  simp only [bnd_eq]
  have out : ∀ X : Nat → Int32 × Mem, (f_X9_isRow M2 a c = 0 ∨ f_X9_isRow M2 b c = 0) → (f_X8_rowOf M1 a c = none ∨ f_X8_rowOf M1 b c = none) → (oc (f_X8_rowOf M1 a c) (oc (f_X8_rowOf M1 b c) ((-1 : Int32), M1) (fun o2 => ((-1), M1))) (fun o1 => oc (f_X8_rowOf M1 b c) ((-1), M1) (fun o3 => X o1))) = (-1, M1) := by
    intro X _ hx
    rcases hx with z | z
    · rw [z, oc_none]
      cases f_X8_rowOf M1 b c <;> rfl
    · rw [z]
      cases f_X8_rowOf M1 a c <;> rfl
  by_cases ha : (0 ≤ a.toInt ∧ a.toInt < 4) ∧ (0 ≤ c.toInt ∧ c.toInt < 8)
  · obtain ⟨hr1, hq⟩ := ha
    cases ht : S.2.2.1 (nn a) (nn c)
    · rw [rO_f hK hr1 hq ht, mRow_f hM hr1 hq ht, oc_none, if_pos rfl]
      cases f_X8_rowOf M1 b c <;> exact ⟨rfl, h⟩
    · rw [rO_t hK hr1 hq ht, mRow_t hM hr1 hq ht, oc_some, if_neg (show ¬ (1 : Int32) = 0 by decide)]
      by_cases hb : 0 ≤ b.toInt ∧ b.toInt < 4
      · cases ht2 : S.2.2.1 (nn b) (nn c)
        · rw [rO_f hK hb hq ht2, mRow_f hM hb hq ht2, oc_none, if_pos rfl]
          exact ⟨rfl, h⟩
        · rw [rO_t hK hb hq ht2, mRow_t hM hb hq ht2, oc_some, if_neg (show ¬ (1 : Int32) = 0 by decide), isDp, isDp2]
          by_cases hd : 1 ≤ d.toInt ∧ d.toInt ≤ 16
          · rw [if_pos hd, if_neg (show ¬ (1 : Int32) = 0 by decide), if_neg (show ¬ (1 : Int32) = 0 by decide)]
            have hk : d.toInt = (nn d : Nat) := (nn_ti (by omega)).symm
            have hrn1 : nn a < 4 := nn_lt hr1.1 (by omega)
            have hrn2 : nn b < 4 := nn_lt hb.1 (by omega)
            have hqn : nn c < 8 := nn_lt hq.1 (by omega)
            obtain ⟨X, hX, e6⟩ := kOv_6 ho hK (fi := 2) hrn1 hrn2 hqn hk (by omega) ((d.toInt - 1 + 1 : Int).toNat + 1) 0 1 0 rfl (by omega) rfl (by omega)
            have e7 : f_X5_putOverlap M1 2 (34 + 4 * nn c + nn a) (34 + 4 * nn c + nn b) d = f_X1_become M1 2 X (720720 * d.toInt64) := e6
            have z1 : (0 : Int64).toInt = (rd (OvN S (nn a) (nn b) (nn c) 0) 720720).1 := (show (0 : Int) = (rd 0 720720).1 by decide)
            have z2 : (1 : Int64).toInt = (rd (OvN S (nn a) (nn b) (nn c) 0) 720720).2 := (show (1 : Int) = (rd 0 720720).2 by decide)
            obtain ⟨M', e40, em, hm⟩ := mOv_40 ho hr1 hb hq hk (by omega) (by omega) ((d.toInt - 1 + 1 : Int).toNat + 1) M2 0 1 1 0 hM rfl (by omega) z1 z2 (by omega)
            rw [e7, e40]
            have hb' := OvN_bd S (nn a) (nn b) (nn c) (k := nn d) (by omega)
            refine ⟨rfl, fin_board ho hK hM ⟨X, 720720 * d.toInt64, rfl, by omega, ?_⟩ hm em⟩
            rw [hX, l_mul (by rw [i2l_ti, l_P]; omega) (by rw [i2l_ti, l_P]; omega), i2l_ti, l_P, hk]
          · rw [if_neg hd, if_pos rfl, if_pos rfl]; exact ⟨rfl, h⟩
      · rw [rO_out (fun z => hb z.1), mRow_out (fun z => hb z.1), oc_none, if_pos rfl]
        exact ⟨rfl, h⟩
  · rw [rO_out ha, mRow_out ha, oc_none, if_pos rfl]
    cases f_X8_rowOf M1 b c <;> exact ⟨rfl, h⟩
