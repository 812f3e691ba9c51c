/-! 87d: odds, wins -/
theorem mT {d x : Nat → Int} {s : Nat} {M2 : Mem} {V : Int64} (dm : DM d s M2) (db : DB d s) (hV : V.toInt = LB d s) (hx : ∀ i, i < s → x i * LL = d i * LB d s) {i : Nat} (hi : i < s) : (M2.2 5 i * (V / M2.2 6 i)).toInt = x i := by
  have hB := LB_ok d s
  obtain ⟨c, hc⟩ := LB_dv d hi
  have hbp := bb_pos (d i)
  have m := dm i hi
  have q1 : (V / M2.2 6 i).toInt = c := by
    rw [l_div (by rw [m.2]; omega), m.2, hV, tdiv_ex ⟨c, hc⟩, hc]
    exact Int.mul_ediv_cancel_left _ (by omega)
  have key : tt (d i) * c * LL = d i * LB d s := by
    have := tb (d i)
    rw [Int.mul_right_comm, this, hc, Int.mul_assoc]
  have hbd := cut_bd key hB.1 hB.2 (db i hi)
  have v := lv8
  have hLp := LL_pos
  rw [l_mul (by rw [m.1, q1]; omega) (by rw [m.1, q1]; omega), m.1, q1]
  have e : tt (d i) * c * LL = x i * LL := by rw [key, hx i hi]
  exact Int.eq_of_mul_eq_mul_right (by omega) e
theorem m49 {d : Nat → Int} {s : Nat} {M2 : Mem} {v6 : Int32} (dm : DM d s M2) (h6 : v6.toInt = s) (hs : s ≤ 8) : ∀ (r n i : Nat) (v7 : Int64) (v9 : Int32), v9.toInt = i → i + r = s → v7.toInt = LB d i → r < n → ∃ V : Int64, V.toInt = LB d s ∧ f_X9_odds_49 n M2 v6 v7 v9 = f_X9_odds_93 9 M2 v6 V 0 0 := by
  intro r
  induction r with
  | zero =>
    intro n i v7 v9 h9 hi h7 hn
    obtain ⟨n, rfl⟩ : ∃ y, n = y + 1 := ⟨n - 1, by omega⟩
    have z : i = s := by omega
    subst z
    refine ⟨v7, h7, ?_⟩
    rw [f_X9_odds_49, if_pos (show v6 ≤ v9 from Int32.le_iff_toInt_le.mpr (by omega))]
  | succ r ih =>
    intro n i v7 v9 h9 hi h7 hn
    obtain ⟨n, rfl⟩ : ∃ y, n = y + 1 := ⟨n - 1, by omega⟩
    rw [f_X9_odds_49, if_neg (show ¬ v6 ≤ v9 from fun z => by have t := i_le z; omega)]
    simp only [bnd_eq]
    have ec : v9.toNatClampNeg = i := by have := clampI (x := v9) (by omega); omega
    have qi := inc_sp v9
    rw [ec]
    have m := dm i (by omega)
    have hbp := bb_pos (d i)
    have hB := LB_ok d i
    have hB1 := LB_ok d (i + 1)
    have hl := Int.le_of_dvd LL_pos hB1.2
    have hl0 := Int.le_of_dvd LL_pos hB.2
    have hL := LL_lt
    have hg := gcd_pos (N := LB d i) hbp
    have G : (f_X9_common v7 (M2.2 6 i)).toInt = (Int.gcd (LB d i) (bb (d i)) : Int) := by rw [cmG (by omega) (by omega), h7, m.2]
    have q : (v7 / f_X9_common v7 (M2.2 6 i)).toInt = LB d i / (Int.gcd (LB d i) (bb (d i)) : Int) := by
      rw [l_div (by rw [G]; omega), G, h7, tdiv_ex (Int.gcd_dvd_left _ _)]
    have eL : LB d (i + 1) = LB d i / (Int.gcd (LB d i) (bb (d i)) : Int) * bb (d i) := rfl
    refine ih n (i + 1) _ (v9 + 1) (by omega) (by omega) ?_ (by omega)
    rw [l_mul (by rw [q, m.2, ← eL]; omega) (by rw [q, m.2, ← eL]; omega), q, m.2, eL]
theorem m93 {x : Nat → Int} {s : Nat} {M2 : Mem} {v6 : Int32} {v7 : Int64} (h6 : v6.toInt = s) (hs : s ≤ 8) (ht : ∀ i, i < s → (M2.2 5 i * (v7 / M2.2 6 i)).toInt = x i) (hb : ∀ i, i < s → -(16 * LL) ≤ x i ∧ x i ≤ 16 * LL) : ∀ (r n i : Nat) (v9 : Int64) (v11 : Int32), v11.toInt = i → i + r = s → v9.toInt = sm x i → r < n → ∃ T : Int64, T.toInt = ((sm x s).natAbs : Int) ∧ f_X9_odds_93 n M2 v6 v7 v9 v11 = f_X9_odds_152 (((1 <<< (v6 &&& 31) : Int32).toInt - 0 : Int).toNat + 1) M2 v6 v7 T 0 0 := by
  intro r
  induction r with
  | zero =>
    intro n i v9 v11 h11 hi h9 hn
    obtain ⟨n, rfl⟩ : ∃ y, n = y + 1 := ⟨n - 1, by omega⟩
    have z : i = s := by omega
    subst z
    have u := up8 hs
    have v := lv8
    have hLp := LL_pos
    have b := sm16 hb i (Nat.le_refl _)
    rw [f_X9_odds_93, if_pos (show v6 ≤ v11 from Int32.le_iff_toInt_le.mpr (by omega))]
    simp only [bnd_eq]
    by_cases c : (0 : Int64) ≤ v9
    · have t : 0 ≤ v9.toInt := l_le c
      rw [if_pos c]
      exact ⟨v9, by omega, rfl⟩
    · have t : v9.toInt < 0 := l_nle c
      rw [if_neg c]
      exact ⟨-v9, by rw [l_neg (by omega)]; omega, rfl⟩
  | succ r ih =>
    intro n i v9 v11 h11 hi h9 hn
    obtain ⟨n, rfl⟩ : ∃ y, n = y + 1 := ⟨n - 1, by omega⟩
    have u := up8 (i := i + 1) (by omega)
    have v := lv8
    have hLp := LL_pos
    have b := sm16 hb (i + 1) (by omega)
    rw [f_X9_odds_93, if_neg (show ¬ v6 ≤ v11 from fun z => by have t := i_le z; omega)]
    simp only [bnd_eq]
    have ec : v11.toNatClampNeg = i := by have := clampI (x := v11) (by omega); omega
    have qi := inc_sp v11
    rw [ec]
    have hxi := ht i (by omega)
    have es : sm x (i + 1) = sm x i + x i := rfl
    refine ih n (i + 1) _ (v11 + 1) (by omega) (by omega) ?_ (by omega)
    rw [l_add (by rw [hxi, h9]; omega) (by rw [hxi, h9]; omega), hxi, h9]; rfl
theorem m167 (K : Int64 → Int32 × Mem) {x : Nat → Int} {s m : Nat} {M2 : Mem} {v6 v13 : Int32} {v7 v9 v11 : Int64} (h6 : v6.toInt = s) (hs : s ≤ 8) (ht : ∀ i, i < s → (M2.2 5 i * (v7 / M2.2 6 i)).toInt = x i) (hb : ∀ i, i < s → -(16 * LL) ≤ x i ∧ x i ≤ 16 * LL) (hm : m < 256) (h13 : v13 = Int32.ofNat m) : ∀ (r n i : Nat) (u14 : Int64) (u16 : Int32), u16.toInt = i → i + r = s → (-((i : Int) * (16 * LL)) ≤ u14.toInt ∧ u14.toInt ≤ (i : Int) * (16 * LL)) → r < n → ∃ y : Int64, f_X9_odds_167 K n M2 v6 v7 v9 v11 v13 u14 u16 = K y ∧ y.toInt = u14.toInt + sl x i r (m / 2 ^ i) ∧ (-((s : Int) * (16 * LL)) ≤ y.toInt ∧ y.toInt ≤ (s : Int) * (16 * LL)) := by
  intro r
  induction r with
  | zero =>
    intro n i u14 u16 h16 hi hu hn
    obtain ⟨n, rfl⟩ : ∃ y, n = y + 1 := ⟨n - 1, by omega⟩
    have z : i = s := by omega
    subst z
    rw [f_X9_odds_167, if_pos (show v6 ≤ u16 from Int32.le_iff_toInt_le.mpr (by omega))]
    exact ⟨u14, rfl, by rw [sl, Int.add_zero], hu⟩
  | succ r ih =>
    intro n i u14 u16 h16 hi hu hn
    obtain ⟨n, rfl⟩ : ∃ y, n = y + 1 := ⟨n - 1, by omega⟩
    have u := up8 (i := i + 1) (by omega)
    have v := lv8
    have hLp := LL_pos
    rw [f_X9_odds_167, if_neg (show ¬ v6 ≤ u16 from fun z => by have t := i_le z; omega)]
    simp only [bnd_eq]
    have ec : u16.toNatClampNeg = i := by have := clampI (x := u16) (by omega); omega
    have qi := inc_sp u16
    have eu : u16 = Int32.ofNat i := i_ext (by rw [ofn_ti i (by omega), h16])
    rw [ec]
    have hxi := ht i (by omega)
    generalize M2.2 5 i * (v7 / M2.2 6 i) = w at *
    have st := step16 (i := i) hu (hb i (by omega))
    have bt := bitm m hm i (by omega)
    have hbi := hb i (by omega)
    have es : sl x i (r + 1) (m / 2 ^ i) = (if m / 2 ^ i % 2 = 1 then -x i else x i) + sl x (i + 1) r (m / 2 ^ (i + 1)) := by
      rw [sl, Nat.div_div_eq_div_mul, Nat.pow_succ]
    have en : (-w).toInt = -x i := by rw [l_neg (by omega), hxi]
    by_cases c : ((v13 >>> (u16 &&& 31)) &&& 1) = 1
    · rw [if_pos c]
      rw [h13, eu] at c
      have b1 := bt.mp c
      have e1 : (u14 + -w).toInt = u14.toInt - x i := by rw [l_add (by omega) (by omega), en]; omega
      obtain ⟨y, E, h1, h2⟩ := ih n (i + 1) (u14 + -w) (u16 + 1) (by omega) (by omega) (by rw [e1]; exact st.2) (by omega)
      refine ⟨y, E, ?_, h2⟩
      rw [h1, es, if_pos b1, e1]; omega
    · rw [if_neg c]
      rw [h13, eu] at c
      have b1 : ¬ m / 2 ^ i % 2 = 1 := fun z => c (bt.mpr z)
      have e1 : (u14 + w).toInt = u14.toInt + x i := by rw [l_add (by omega) (by omega), hxi]
      obtain ⟨y, E, h1, h2⟩ := ih n (i + 1) (u14 + w) (u16 + 1) (by omega) (by omega) (by rw [e1]; exact st.1) (by omega)
      refine ⟨y, E, ?_, h2⟩
      rw [h1, es, if_neg b1, e1]; omega
theorem m152 {x : Nat → Int} {s : Nat} {M2 : Mem} {v6 : Int32} {v7 v9 : Int64} (h6 : v6 = Int32.ofNat s) (hs : s ≤ 8) (ht : ∀ i, i < s → (M2.2 5 i * (v7 / M2.2 6 i)).toInt = x i) (hb : ∀ i, i < s → -(16 * LL) ≤ x i ∧ x i ≤ 16 * LL) : ∀ (r n m : Nat) (v11 : Int64) (v13 : Int32), v13 = Int32.ofNat m → m + r = 2 ^ s → v11.toInt = (cnt (Pw x v9.toInt 0 0 s) m : Nat) → r < n → ∃ X : Int64, X.toInt = (Wy x v9.toInt 0 0 s : Nat) ∧ f_X9_odds_152 n M2 v6 v7 v9 v11 v13 = (v6, f_X9_show (f_X9_make M2 X ((1 : Int64) <<< (v6.toInt64 &&& 63)))) := by
  intro r
  have p2 := p2_le hs
  have hsh := shl5 s (by omega)
  rw [← h6] at hsh
  have h6' : v6.toInt = s := by rw [h6]; exact ofn_ti s (by omega)
  induction r with
  | zero =>
    intro n m v11 v13 h13 hm h11 hn
    obtain ⟨n, rfl⟩ : ∃ y, n = y + 1 := ⟨n - 1, by omega⟩
    have e13 := ofn_ti m (by omega)
    rw [← h13] at e13
    rw [f_X9_odds_152, if_pos (show (1 <<< (v6 &&& 31)) ≤ v13 from Int32.le_iff_toInt_le.mpr (by omega))]
    simp only [bnd_eq]
    refine ⟨v11, ?_, rfl⟩
    rw [h11]
    have z : m = 2 ^ s := by omega
    rw [z]; rfl
  | succ r ih =>
    intro n m v11 v13 h13 hm h11 hn
    obtain ⟨n, rfl⟩ : ∃ y, n = y + 1 := ⟨n - 1, by omega⟩
    have e13 := ofn_ti m (by omega)
    rw [← h13] at e13
    have eb := ofn_ti (m + 1) (by omega)
    have qi := inc_sp v13
    have en : v13 + 1 = Int32.ofNat (m + 1) := i_ext (by omega)
    rw [f_X9_odds_152, if_neg (show ¬ (1 <<< (v6 &&& 31)) ≤ v13 from fun z => by have t := i_le z; omega)]
    simp only [bnd_eq]
    obtain ⟨y, E, hy, hyb⟩ := m167 (fun y14 => if (0 : Int64) ≤ y14 then (if y14 < v9 then (f_X9_odds_152 n M2 v6 v7 v9 (v11 + 0) (v13 + 1)) else (f_X9_odds_152 n M2 v6 v7 v9 (v11 + 1) (v13 + 1))) else (if (-y14) < v9 then (f_X9_odds_152 n M2 v6 v7 v9 (v11 + 0) (v13 + 1)) else (f_X9_odds_152 n M2 v6 v7 v9 (v11 + 1) (v13 + 1)))) (v9 := v9) (v11 := v11) h6' hs ht hb (m := m) (by omega) h13 s 9 0 0 0 rfl (by omega) (by constructor <;> decide) (by omega)
    rw [E]
    have u := up8 hs
    have v := lv8
    have hLp := LL_pos
    have hc := cnt_le (Pw x v9.toInt 0 0 s) m
    have ey : y.toInt = 0 + sl x 0 s m := by
      rw [hy, Nat.pow_zero, Nat.div_one]; rfl
    have eP : Pw x v9.toInt 0 0 s m = decide (v9.toInt ≤ (y.toInt.natAbs : Int)) := by rw [ey]; rfl
    have z1 : (1 : Int64).toInt = 1 := rfl
    have no : ¬ v9.toInt ≤ (y.toInt.natAbs : Int) → ∃ X : Int64, X.toInt = (Wy x v9.toInt 0 0 s : Nat) ∧ f_X9_odds_152 n M2 v6 v7 v9 (v11 + 0) (v13 + 1) = (v6, f_X9_show (f_X9_make M2 X ((1 : Int64) <<< (v6.toInt64 &&& 63)))) := by
      intro c
      exact ih n (m + 1) (v11 + 0) (v13 + 1) en (by omega) (by rw [Int64.add_zero, h11, cnt, eP, if_neg (by simp; omega)]; rfl) (by omega)
    have ye : v9.toInt ≤ (y.toInt.natAbs : Int) → ∃ X : Int64, X.toInt = (Wy x v9.toInt 0 0 s : Nat) ∧ f_X9_odds_152 n M2 v6 v7 v9 (v11 + 1) (v13 + 1) = (v6, f_X9_show (f_X9_make M2 X ((1 : Int64) <<< (v6.toInt64 &&& 63)))) := by
      intro c
      exact ih n (m + 1) (v11 + 1) (v13 + 1) en (by omega) (by rw [l_add (by rw [h11, z1]; omega) (by rw [h11, z1]; omega), h11, z1, cnt, eP, if_pos (by simp; omega)]; omega) (by omega)
    show ∃ X : Int64, X.toInt = (Wy x v9.toInt 0 0 s : Nat) ∧ (if (0 : Int64) ≤ y then (if y < v9 then (f_X9_odds_152 n M2 v6 v7 v9 (v11 + 0) (v13 + 1)) else (f_X9_odds_152 n M2 v6 v7 v9 (v11 + 1) (v13 + 1))) else (if (-y) < v9 then (f_X9_odds_152 n M2 v6 v7 v9 (v11 + 0) (v13 + 1)) else (f_X9_odds_152 n M2 v6 v7 v9 (v11 + 1) (v13 + 1)))) = (v6, f_X9_show (f_X9_make M2 X ((1 : Int64) <<< (v6.toInt64 &&& 63))))
    by_cases c : (0 : Int64) ≤ y
    · have t : 0 ≤ y.toInt := l_le c
      rw [if_pos c]
      by_cases c2 : y < v9
      · have t2 := l_lt c2
        rw [if_pos c2]; exact no (by omega)
      · have t2 := l_nlt c2
        rw [if_neg c2]; exact ye (by omega)
    · have t : y.toInt < 0 := l_nle c
      have e3 : (-y).toInt = -y.toInt := l_neg (by omega)
      rw [if_neg c]
      by_cases c2 : (-y) < v9
      · have t2 := l_lt c2
        rw [if_pos c2]; exact no (by omega)
      · have t2 := l_nlt c2
        rw [if_neg c2]; exact ye (by omega)
theorem mRf {a b c d : Int32} : f_X9_refused a b c d = if (0 ≤ a.toInt ∧ a.toInt < 4) ∧ (0 ≤ b.toInt ∧ b.toInt < 4) then (if (0 ≤ c.toInt ∧ c.toInt ≤ 8) ∧ c ≠ 4 ∧ c ≠ 5 ∧ (1 ≤ d.toInt ∧ d.toInt ≤ 16) then 0 else -2) else -1 := by
  unfold f_X9_refused
  simp only [bnd_eq]
  rw [mR, mR]
  by_cases h1 : 0 ≤ a.toInt ∧ a.toInt < 4
  · rw [if_pos h1, if_neg (by decide)]
    by_cases h2 : 0 ≤ b.toInt ∧ b.toInt < 4
    · rw [if_pos h2, if_neg (by decide), if_pos (show (0 ≤ a.toInt ∧ a.toInt < 4) ∧ (0 ≤ b.toInt ∧ b.toInt < 4) from ⟨h1, h2⟩), isMn]
      by_cases h3 : (0 ≤ c.toInt ∧ c.toInt ≤ 8) ∧ c ≠ 4 ∧ c ≠ 5 ∧ (1 ≤ d.toInt ∧ d.toInt ≤ 16)
      · rw [if_pos h3, if_pos h3, if_neg (by decide)]
      · rw [if_neg h3, if_neg h3, if_pos rfl]
    · rw [if_neg h2, if_pos rfl, if_neg (show ¬ ((0 ≤ a.toInt ∧ a.toInt < 4) ∧ (0 ≤ b.toInt ∧ b.toInt < 4)) from fun z => h2 z.2)]
  · rw [if_neg h1, if_pos rfl, if_neg (show ¬ ((0 ≤ a.toInt ∧ a.toInt < 4) ∧ (0 ≤ b.toInt ∧ b.toInt < 4)) from fun z => h1 z.1)]
theorem df_fr6 (v1 v2 v3 v4 : Int32) : ∀ (n : Nat) (M : Mem) (v5 v6 : Int32), (f_X9_differences_6 n M v1 v2 v3 v4 v5 v6).2.2 0 4 = M.2 0 4 ∧ (f_X9_differences_6 n M v1 v2 v3 v4 v5 v6).2.2 0 5 = M.2 0 5
  | 0, _, _, _ => ⟨rfl, rfl⟩
  | n + 1, M, v5, v6 => by
    rw [f_X9_differences_6]
    simp only [bnd_eq]
    split
    · exact ⟨rfl, rfl⟩
    · split
      · exact df_fr6 v1 v2 v3 v4 n _ _ _
      · split
        · exact df_fr6 v1 v2 v3 v4 n _ _ _
        · have ih := df_fr6 v1 v2 v3 v4 n (ul (ul (f_X9_plus (f_X9_reckon (f_X9_reckon M v2 v6 v3 v4) v1 v6 v3 v4) (-(f_X9_reckon M v2 v6 v3 v4).2 0 6) ((f_X9_reckon M v2 v6 v3 v4).2 0 7)) 5 v5.toNatClampNeg ((f_X9_plus (f_X9_reckon (f_X9_reckon M v2 v6 v3 v4) v1 v6 v3 v4) (-(f_X9_reckon M v2 v6 v3 v4).2 0 6) ((f_X9_reckon M v2 v6 v3 v4).2 0 7)).2 0 6)) 6 v5.toNatClampNeg ((ul (f_X9_plus (f_X9_reckon (f_X9_reckon M v2 v6 v3 v4) v1 v6 v3 v4) (-(f_X9_reckon M v2 v6 v3 v4).2 0 6) ((f_X9_reckon M v2 v6 v3 v4).2 0 7)) 5 v5.toNatClampNeg ((f_X9_plus (f_X9_reckon (f_X9_reckon M v2 v6 v3 v4) v1 v6 v3 v4) (-(f_X9_reckon M v2 v6 v3 v4).2 0 6) ((f_X9_reckon M v2 v6 v3 v4).2 0 7)).2 0 6)).2 0 7)) (v5 + 1) (v6 + 1)
          have f := ((fr_reckon M v2 v6 v3 v4).tr (fr_reckon _ v1 v6 v3 v4)).tr (fr_plus _ (-(f_X9_reckon M v2 v6 v3 v4).2 0 6) ((f_X9_reckon M v2 v6 v3 v4).2 0 7))
          rw [ul_ne (show (0 : Nat) ≠ 6 by decide), ul_ne (show (0 : Nat) ≠ 5 by decide), f.2.2 4 (by decide) (by decide), f.2.2 5 (by decide) (by decide)] at ih
          exact ih
theorem df_fr (M : Mem) (a b c d : Int32) : (f_X9_differences M a b c d).2.2 0 4 = M.2 0 4 ∧ (f_X9_differences M a b c d).2.2 0 5 = M.2 0 5 := df_fr6 a b c d 9 M 0 0
/-- what both sides meet with -/
theorem meet2 {S : Ab} {M1 M2 : Mem} {a b c d : Int32} (ho : okA S) (hK : AbK S M1) (hM : AbM S M2) (hB : Bd M1 M2) (h1 : 0 ≤ a.toInt ∧ a.toInt < 4) (h2 : 0 ≤ b.toInt ∧ b.toInt < 4) (h3 : (0 ≤ c.toInt ∧ c.toInt ≤ 8) ∧ c ≠ 4 ∧ c ≠ 5 ∧ (1 ≤ d.toInt ∧ d.toInt ≤ 16)) :
    ∃ s' d' M1' M2' c', f_X8_meet_52 9 (f_X0_clear M1) a b c d 0 = (if c' = 0 then ((-3), M1') else (c', M1')) ∧ f_X9_differences M2 a b c d = (c', M2') ∧ AbK S M1' ∧ AbM S M2' ∧ Bd M1' M2' ∧ c'.toInt = (s' : Nat) ∧ s' ≤ 8 ∧ DK d' s' M1' ∧ DM d' s' M2' ∧ DB d' s' := by
  have hk : d.toInt = (nn d : Nat) := (nn_ti (by omega)).symm
  have e : f_X0_clear M1 = ui (ul M1 5 1 1) 5 2 0 := by unfold f_X0_clear; simp only [bnd_eq]
  have hKc : AbK S (f_X0_clear M1) := hK.of5 (fun i hi => by rw [e, ui_ne hi]; rfl)
  refine diffs2 ho h1 h2 h3.1 h3.2.1 h3.2.2.1 hk (by omega) (by omega) 8 9 0 (f_X0_clear M1) M2 0 0 (fun _ => 0) hKc hM ?_ rfl rfl (by omega) ?_ (fun i hi => absurd hi (by omega)) (fun i hi => absurd hi (by omega)) (by omega)
  · have q : (f_X0_clear M1).2 2 = M1.2 2 := by rw [e]; show (ul M1 5 1 1).2 2 = _; rw [ul_ne (by decide)]
    exact hB.same2 q rfl
  · refine ⟨?_, ?_, fun i hi => absurd hi (by omega)⟩
    · rw [e, ui_at]; rfl
    · rw [e]; show ((ul M1 5 1 1).2 5 1).toInt = _; rw [ul_at]; rfl
theorem eq_odds {M1 M2 : Mem} (a b c d : Int32) (h : Rel M1 M2) : (f_X8_odds M1 a b c d).1 = (f_X9_odds M2 a b c d).1 ∧ Rel (f_X8_odds M1 a b c d).2 (f_X9_odds M2 a b c d).2 := by
  obtain ⟨S, ho, hK, hM, hB⟩ := id h
  unfold f_X8_odds f_X9_odds f_X8_meet
  simp only [bnd_eq]
  rw [kR, kR, hasMn, isDp, mRf]
  by_cases h1 : 0 ≤ a.toInt ∧ a.toInt < 4
  · rw [if_pos h1, if_neg (show ¬ (1 : Int32) = 0 by decide)]
    by_cases h2 : 0 ≤ b.toInt ∧ b.toInt < 4
    · rw [if_pos h2, if_neg (show ¬ (1 : Int32) = 0 by decide), if_pos (show (0 ≤ a.toInt ∧ a.toInt < 4) ∧ 0 ≤ b.toInt ∧ b.toInt < 4 from ⟨h1, h2⟩)]
      by_cases h3 : (0 ≤ c.toInt ∧ c.toInt ≤ 8) ∧ c ≠ 4 ∧ c ≠ 5 ∧ (1 ≤ d.toInt ∧ d.toInt ≤ 16)
      · rw [if_pos (show (0 ≤ c.toInt ∧ c.toInt ≤ 8) ∧ c ≠ 4 ∧ c ≠ 5 from ⟨h3.1, h3.2.1, h3.2.2.1⟩), if_neg (show ¬ (1 : Int32) = 0 by decide), if_pos (show 1 ≤ d.toInt ∧ d.toInt ≤ 16 from h3.2.2.2), if_neg (show ¬ (1 : Int32) = 0 by decide), if_pos h3, if_pos (show (0 : Int32) ≤ 0 by decide)]
        obtain ⟨s, dd, M1', M2', c', E1, E2, hK', hM', hB', hc, hs, dk, dm, db⟩ := meet2 ho hK hM hB h1 h2 h3
        rw [E2]
        have R' : Rel M1' M2' := ⟨S, ho, hK', hM', hB'⟩
        by_cases hab : a = b
        · rw [if_pos hab, if_pos hab, if_pos (show (-3 : Int32) ≤ 0 by decide)]
          have q := df_fr M2 a b c d
          rw [E2] at q
          exact ⟨rfl, S, ho, hK, hM', hB.1.trans q.1.symm, hB.2.trans q.2.symm⟩
        · rw [if_neg hab, if_neg hab, E1]
          by_cases cz : c' = 0
          · rw [if_pos cz, if_pos cz, if_pos (show (-3 : Int32) ≤ 0 by decide)]
            exact ⟨rfl, R'⟩
          · have c1 : 1 ≤ c'.toInt := by
              have : ¬ c'.toInt = 0 := fun y => cz (i_ext y)
              omega
            rw [if_neg cz, if_neg cz, if_neg (show ¬ c' ≤ 0 from fun z => by have t : c'.toInt ≤ 0 := i_le z; omega)]
            obtain ⟨V, hV, e49⟩ := m49 (v6 := c') dm hc hs s 9 0 1 0 rfl (by omega) rfl (by omega)
            have hb : ∀ i, i < s → -(16 * LL) ≤ (M1'.2 6 i).toInt ∧ (M1'.2 6 i).toInt ≤ 16 * LL := fun i hi => cut_bd (dk.2.2 i hi) (LB_ok dd s).1 (LB_ok dd s).2 (db i hi)
            have ht : ∀ i, i < s → (M2'.2 5 i * (V / M2'.2 6 i)).toInt = (M1'.2 6 i).toInt := fun i hi => mT dm db hV (fun i hi => dk.2.2 i hi) hi
            obtain ⟨T, hT, e93⟩ := m93 (M2 := M2') (v6 := c') (v7 := V) (x := fun i => (M1'.2 6 i).toInt) hc hs ht hb s 9 0 0 0 rfl (by omega) rfl (by omega)
            have ecs : c' = Int32.ofNat s := i_ext (by rw [ofn_ti s (by omega), hc])
            have hsh := shl5 s (by omega)
            have hsh6 := shl6 s (by omega)
            rw [← ecs] at hsh hsh6
            obtain ⟨X, hX, e152⟩ := m152 (M2 := M2') (v6 := c') (v7 := V) (v9 := T) (x := fun i => (M1'.2 6 i).toInt) ecs hs ht hb (2 ^ s) (((1 <<< (c' &&& 31) : Int32).toInt - 0 : Int).toNat + 1) 0 0 0 rfl (by omega) rfl (by omega)
            have kw := kWf (M := M1') (x := fun i => (M1'.2 6 i).toInt) hs (fun i _ => rfl) hb dk.1 s 9 0 0 0 rfl (by omega) rfl (by omega)
            have ekw : f_X0_waysAsFarApart M1' = f_X0_waysAsFarApart_4 9 M1' 0 0 := rfl
            rw [e49, e93, e152, ekw]
            rw [hT] at hX
            have w1 := Wy_le (fun i => (M1'.2 6 i).toInt) ((sm (fun i => (M1'.2 6 i).toInt) s).natAbs : Int) 0 0 hs
            have p2 := p2_le hs
            have h64 : 0 ≤ ((1 : Int64) <<< (c'.toInt64 &&& 63)).toInt := by rw [hsh6]; exact Int.natCast_nonneg _
            refine ⟨rfl, ?_⟩
            refine fin_board ho hK' hM' (V := rd X.toInt ((1 : Int64) <<< (c'.toInt64 &&& 63)).toInt) ⟨_, _, rfl, by rw [kw]; omega, by rw [kw, hX]⟩ (mkG (by rw [hX]; omega) h64) (fr_make _ _ _).1
      · rw [if_neg h3, if_neg (show ¬ (0 : Int32) ≤ -2 by decide)]
        have G : ∀ X : Int32 × Mem, (if (if (0 ≤ c.toInt ∧ c.toInt ≤ 8) ∧ c ≠ 4 ∧ c ≠ 5 then (1 : Int32) else 0) = 0 then ((-2 : Int32), M1) else (if (if 1 ≤ d.toInt ∧ d.toInt ≤ 16 then (1 : Int32) else 0) = 0 then ((-2 : Int32), M1) else X)) = (-2, M1) := by
          intro X
          by_cases g1 : (0 ≤ c.toInt ∧ c.toInt ≤ 8) ∧ c ≠ 4 ∧ c ≠ 5
          · rw [if_pos g1, if_neg (by decide), if_neg (fun z => h3 ⟨g1.1, g1.2.1, g1.2.2, z⟩), if_pos rfl]
          · rw [if_neg g1, if_pos rfl]
        rw [G, if_pos (show (-2 : Int32) ≤ 0 by decide)]
        exact ⟨rfl, h⟩
    · rw [if_neg h2, if_pos rfl, if_neg (show ¬ ((0 ≤ a.toInt ∧ a.toInt < 4) ∧ (0 ≤ b.toInt ∧ b.toInt < 4)) from fun z => h2 z.2), if_neg (show ¬ (0 : Int32) ≤ -1 by decide), if_pos (show (-1 : Int32) ≤ 0 by decide)]
      exact ⟨rfl, h⟩
  · rw [if_neg h1, if_pos rfl, if_neg (show ¬ ((0 ≤ a.toInt ∧ a.toInt < 4) ∧ (0 ≤ b.toInt ∧ b.toInt < 4)) from fun z => h1 z.1), if_neg (show ¬ (0 : Int32) ≤ -1 by decide), if_pos (show (-1 : Int32) ≤ 0 by decide)]
    exact ⟨rfl, h⟩
theorem kDs {d : Nat → Int} {s : Nat} {M : Mem} (hs : s ≤ 8) (dk : DK d s M) {v1 : Int32} {Q : Int → Bool} (hQ : ∀ y : Int64, (f_J13_signum_95d88 y = v1 ↔ Q y.toInt = true)) (hq : ∀ i, i < s → Q (M.2 6 i).toInt = Q (d i)) : ∀ (r n i : Nat) (v2 v3 : Int32), v3.toInt = i → i + r = s → v2.toInt = (cnt (fun i => Q (d i)) i : Nat) → r < n → (f_X0_differencesWithSign_4 n M v1 v2 v3).toInt = (cnt (fun i => Q (d i)) s : Nat) := by
  intro r
  induction r with
  | zero =>
    intro n i v2 v3 h3 hi h2 hn
    obtain ⟨n, rfl⟩ : ∃ y, n = y + 1 := ⟨n - 1, by omega⟩
    have z : i = s := by omega
    subst z
    have := dk.1
    rw [f_X0_differencesWithSign_4, if_pos (show M.1 5 2 ≤ v3 from Int32.le_iff_toInt_le.mpr (by omega)), h2]
  | succ r ih =>
    intro n i v2 v3 h3 hi h2 hn
    obtain ⟨n, rfl⟩ : ∃ y, n = y + 1 := ⟨n - 1, by omega⟩
    have hk := dk.1
    rw [f_X0_differencesWithSign_4, if_neg (show ¬ M.1 5 2 ≤ v3 from fun z => by have t := i_le z; omega), if_neg (show ¬ (8 : Int32) ≤ v3 from fun z => by have t : 8 ≤ v3.toInt := i_le z; omega)]
    simp only [bnd_eq]
    have ec : v3.toNatClampNeg = i := by have := clampI (x := v3) (by omega); omega
    have q3 := inc_sp v3
    have q2 := inc_sp v2
    have hc := cnt_le (fun i => Q (d i)) i
    rw [ec]
    have e := hq i (by omega)
    have hs := hQ (M.2 6 i)
    rw [e] at hs
    by_cases c : f_J13_signum_95d88 (M.2 6 i) = v1
    · rw [if_pos c]
      exact ih n (i + 1) (v2 + 1) (v3 + 1) (by omega) (by omega) (by rw [cnt, if_pos (hs.mp c)]; omega) (by omega)
    · rw [if_neg c]
      exact ih n (i + 1) v2 (v3 + 1) (by omega) (by omega) (by rw [cnt, if_neg (fun z => c (hs.mpr z))]; exact h2) (by omega)
def Qp (y : Int) : Bool := decide (0 < y)
def Qn (y : Int) : Bool := decide (y < 0)
def Qz (y : Int) : Bool := decide (y = 0)
theorem sg3 (y : Int64) : (f_J13_signum_95d88 y = 1 ↔ Qp y.toInt = true) ∧ (f_J13_signum_95d88 y = -1 ↔ Qn y.toInt = true) ∧ (f_J13_signum_95d88 y = 0 ↔ Qz y.toInt = true) := by
  unfold Qp Qn Qz
  rcases Int.lt_trichotomy y.toInt 0 with z | z | z
  · rw [sgn_n z]; simp; omega
  · rw [sgn_0 z]; simp; omega
  · rw [sgn_p z]; simp; omega
/-- a scaled number keeps its sign -/
theorem sg_sc {x d B : Int} (h : x * LL = d * B) (hB : 0 < B) : (0 < x ↔ 0 < d) ∧ (x < 0 ↔ d < 0) ∧ (x = 0 ↔ d = 0) := by
  have hL := LL_pos
  have s : ∀ {u v : Int}, 0 < v → (0 < u ↔ 0 < u * v) ∧ (u < 0 ↔ u * v < 0) := by
    intro u v hv
    rcases Int.lt_trichotomy u 0 with z | z | z
    · have := Int.mul_neg_of_neg_of_pos z hv
      omega
    · subst z; rw [Int.zero_mul]; omega
    · have := Int.mul_pos z hv
      omega
  have s1 := s (u := x) hL
  have s2 := s (u := d) hB
  rw [h] at s1
  omega
theorem mWs {d : Nat → Int} {s : Nat} {M : Mem} {Q : Int → Bool} {v5 v7 : Int32} (hs : s ≤ 8) (h7 : v7.toInt = s) (hQ : ∀ i, i < s → Q (M.2 5 i).toInt = Q (d i)) (hst : ∀ (n : Nat) (v8 v9 : Int32), f_X9_wins_63 (n + 1) M v5 v7 v8 v9 = if v7 ≤ v9 then (v8, M) else f_X9_wins_63 n M v5 v7 (if Q (M.2 5 v9.toNatClampNeg).toInt then v8 + 1 else v8) (v9 + 1)) : ∀ (r n i : Nat) (v8 v9 : Int32), v9.toInt = i → i + r = s → v8.toInt = (cnt (fun i => Q (d i)) i : Nat) → r < n → ∃ X : Int32, X.toInt = (cnt (fun i => Q (d i)) s : Nat) ∧ f_X9_wins_63 n M v5 v7 v8 v9 = (X, M) := by
  intro r
  induction r with
  | zero =>
    intro n i v8 v9 h9 hi h8 hn
    obtain ⟨n, rfl⟩ : ∃ y, n = y + 1 := ⟨n - 1, by omega⟩
    have z : i = s := by omega
    subst z
    rw [hst, if_pos (show v7 ≤ v9 from Int32.le_iff_toInt_le.mpr (by omega))]
    exact ⟨v8, h8, rfl⟩
  | succ r ih =>
    intro n i v8 v9 h9 hi h8 hn
    obtain ⟨n, rfl⟩ : ∃ y, n = y + 1 := ⟨n - 1, by omega⟩
    have ec : v9.toNatClampNeg = i := by have := clampI (x := v9) (by omega); omega
    have q3 := inc_sp v9
    have q2 := inc_sp v8
    have hc := cnt_le (fun i => Q (d i)) i
    rw [hst, if_neg (show ¬ v7 ≤ v9 from fun z => by have t := i_le z; omega), ec, hQ i (by omega)]
    cases hqi : Q (d i)
    · exact ih n (i + 1) v8 (v9 + 1) (by omega) (by omega) (by rw [cnt, if_neg (by rw [hqi]; decide)]; exact h8) (by omega)
    · exact ih n (i + 1) (v8 + 1) (v9 + 1) (by omega) (by omega) (by rw [cnt, if_pos hqi]; omega) (by omega)
theorem ws0 (M : Mem) (v7 : Int32) (n : Nat) (v8 v9 : Int32) : f_X9_wins_63 (n + 1) M 0 v7 v8 v9 = if v7 ≤ v9 then (v8, M) else f_X9_wins_63 n M 0 v7 (if Qp (M.2 5 v9.toNatClampNeg).toInt then v8 + 1 else v8) (v9 + 1) := by
  rw [f_X9_wins_63]
  simp only [bnd_eq, i_add0]
  rw [if_pos (show True from trivial), if_neg (show ¬ (0 : Int32) = 1 by decide), if_neg (show ¬ (0 : Int32) = 2 by decide)]
  unfold Qp
  by_cases c : (0 : Int64) < M.2 5 v9.toNatClampNeg
  · have t : 0 < (M.2 5 v9.toNatClampNeg).toInt := l_lt c
    rw [if_pos c, if_pos (show decide (0 < (M.2 5 v9.toNatClampNeg).toInt) = true by simp; exact t)]
  · have t : (M.2 5 v9.toNatClampNeg).toInt ≤ 0 := l_nlt c
    rw [if_neg c, if_neg (show ¬ decide (0 < (M.2 5 v9.toNatClampNeg).toInt) = true by simp; exact t)]
theorem ws1 (M : Mem) (v7 : Int32) (n : Nat) (v8 v9 : Int32) : f_X9_wins_63 (n + 1) M 1 v7 v8 v9 = if v7 ≤ v9 then (v8, M) else f_X9_wins_63 n M 1 v7 (if Qn (M.2 5 v9.toNatClampNeg).toInt then v8 + 1 else v8) (v9 + 1) := by
  rw [f_X9_wins_63]
  simp only [bnd_eq, i_add0]
  rw [if_neg (show ¬ (1 : Int32) = 0 by decide), if_pos (show True from trivial), if_neg (show ¬ (1 : Int32) = 2 by decide)]
  unfold Qn
  by_cases c : M.2 5 v9.toNatClampNeg < 0
  · have t : (M.2 5 v9.toNatClampNeg).toInt < 0 := l_lt c
    rw [if_pos c, if_pos (show decide ((M.2 5 v9.toNatClampNeg).toInt < 0) = true by simp; exact t)]
  · have t : 0 ≤ (M.2 5 v9.toNatClampNeg).toInt := l_nlt c
    rw [if_neg c, if_neg (show ¬ decide ((M.2 5 v9.toNatClampNeg).toInt < 0) = true by simp; exact t)]
theorem ws2 (M : Mem) (v7 : Int32) (n : Nat) (v8 v9 : Int32) : f_X9_wins_63 (n + 1) M 2 v7 v8 v9 = if v7 ≤ v9 then (v8, M) else f_X9_wins_63 n M 2 v7 (if Qz (M.2 5 v9.toNatClampNeg).toInt then v8 + 1 else v8) (v9 + 1) := by
  rw [f_X9_wins_63]
  simp only [bnd_eq, i_add0]
  rw [if_neg (show ¬ (2 : Int32) = 0 by decide), if_neg (show ¬ (2 : Int32) = 1 by decide), if_pos (show True from trivial)]
  unfold Qz
  by_cases c : M.2 5 v9.toNatClampNeg = 0
  · have t : (M.2 5 v9.toNatClampNeg).toInt = 0 := l_eq c
    rw [if_pos c, if_pos (show decide ((M.2 5 v9.toNatClampNeg).toInt = 0) = true by simp; exact t)]
  · have t : ¬ (M.2 5 v9.toNatClampNeg).toInt = 0 := l_ne c
    rw [if_neg c, if_neg (show ¬ decide ((M.2 5 v9.toNatClampNeg).toInt = 0) = true by simp; exact t)]
theorem eq_wins {M1 M2 : Mem} (a b c d e : Int32) (h : Rel M1 M2) : (f_X8_wins M1 a b c d e).1 = (f_X9_wins M2 a b c d e).1 ∧ Rel (f_X8_wins M1 a b c d e).2 (f_X9_wins M2 a b c d e).2 := by
  obtain ⟨S, ho, hK, hM, hB⟩ := id h
  unfold f_X8_wins f_X9_wins f_X8_meet
  simp only [bnd_eq]
  rw [kR, kR, hasMn, isDp, mRf]
  by_cases h1 : 0 ≤ a.toInt ∧ a.toInt < 4
  · rw [if_pos h1, if_neg (show ¬ (1 : Int32) = 0 by decide)]
    by_cases h2 : 0 ≤ b.toInt ∧ b.toInt < 4
    · rw [if_pos h2, if_neg (show ¬ (1 : Int32) = 0 by decide), if_pos (show (0 ≤ a.toInt ∧ a.toInt < 4) ∧ 0 ≤ b.toInt ∧ b.toInt < 4 from ⟨h1, h2⟩)]
      by_cases h3 : (0 ≤ c.toInt ∧ c.toInt ≤ 8) ∧ c ≠ 4 ∧ c ≠ 5 ∧ (1 ≤ d.toInt ∧ d.toInt ≤ 16)
      · rw [if_pos h3, if_pos (show (0 : Int32) ≤ 0 by decide)]
        by_cases e0 : e < 0
        · rw [if_pos e0, if_pos e0]; exact ⟨rfl, h⟩
        · rw [if_neg e0, if_neg e0]
          by_cases e2 : e ≤ 2
          · rw [if_pos e2, if_pos e2, if_neg (show ¬ (1 : Int32) = 0 by decide), if_neg (show ¬ (1 : Int32) = 0 by decide), if_pos (show (0 ≤ c.toInt ∧ c.toInt ≤ 8) ∧ c ≠ 4 ∧ c ≠ 5 from ⟨h3.1, h3.2.1, h3.2.2.1⟩), if_neg (show ¬ (1 : Int32) = 0 by decide), if_pos (show 1 ≤ d.toInt ∧ d.toInt ≤ 16 from h3.2.2.2), if_neg (show ¬ (1 : Int32) = 0 by decide)]
            obtain ⟨s, dd, M1', M2', c', E1, E2, hK', hM', hB', hc, hs, dk, dm, db⟩ := meet2 ho hK hM hB h1 h2 h3
            rw [E2]
            have R' : Rel M1' M2' := ⟨S, ho, hK', hM', hB'⟩
            by_cases hab : a = b
            · rw [if_pos hab, if_pos hab, if_neg (show ¬ (0 : Int32) ≤ -3 by decide)]
              have q := df_fr M2 a b c d
              rw [E2] at q
              exact ⟨rfl, S, ho, hK, hM', hB.1.trans q.1.symm, hB.2.trans q.2.symm⟩
            · rw [if_neg hab, if_neg hab, E1]
              by_cases cz : c' = 0
              · rw [if_pos cz, if_pos cz, if_neg (show ¬ (0 : Int32) ≤ -3 by decide)]
                exact ⟨rfl, R'⟩
              · rw [if_neg cz, if_neg cz, if_pos (show (0 : Int32) ≤ c' from Int32.le_iff_toInt_le.mpr (by show (0 : Int) ≤ c'.toInt; omega))]
                have sk := fun i hi => sg_sc (dk.2.2 i hi) (LB_ok dd s).1
                have sm' := fun i (hi : i < s) => sg_sc (show (M2'.2 5 i).toInt * LL = dd i * bb (dd i) by rw [(dm i hi).1]; exact tb (dd i)) (bb_pos (dd i))
                have e3 : e = 0 ∨ e = 1 ∨ e = 2 := by
                  have t0 : 0 ≤ e.toInt := i_nlt e0
                  have t2 : e.toInt ≤ 2 := i_le e2
                  have t3 : e.toInt = 0 ∨ e.toInt = 1 ∨ e.toInt = 2 := by omega
                  rcases t3 with z | z | z
                  · exact Or.inl (i_ext z)
                  · exact Or.inr (Or.inl (i_ext z))
                  · exact Or.inr (Or.inr (i_ext z))
                rcases e3 with z | z | z
                · subst z
                  rw [if_neg (show ¬ (0 : Int32) = 2 by decide), if_pos (show (0 : Int32) = 0 from rfl)]
                  have k := kDs hs dk (v1 := 1) (Q := Qp) (fun y => (sg3 y).1) (fun i hi => by unfold Qp; rw [decide_eq_decide]; exact (sk i hi).1) s 9 0 0 0 rfl (by omega) rfl (by omega)
                  obtain ⟨X, hX, e63⟩ := mWs (d := dd) (M := M2') (Q := Qp) (v5 := 0) hs hc (fun i hi => by unfold Qp; rw [decide_eq_decide]; exact (sm' i hi).1) (ws0 M2' c') s 9 0 0 0 rfl (by omega) rfl (by omega)
                  rw [e63]
                  exact ⟨i_ext (k.trans hX.symm), R'⟩
                · subst z
                  rw [if_neg (show ¬ (1 : Int32) = 2 by decide), if_neg (show ¬ (1 : Int32) = 0 by decide)]
                  have k := kDs hs dk (v1 := -1) (Q := Qn) (fun y => (sg3 y).2.1) (fun i hi => by unfold Qn; rw [decide_eq_decide]; exact (sk i hi).2.1) s 9 0 0 0 rfl (by omega) rfl (by omega)
                  obtain ⟨X, hX, e63⟩ := mWs (d := dd) (M := M2') (Q := Qn) (v5 := 1) hs hc (fun i hi => by unfold Qn; rw [decide_eq_decide]; exact (sm' i hi).2.1) (ws1 M2' c') s 9 0 0 0 rfl (by omega) rfl (by omega)
                  rw [e63]
                  exact ⟨i_ext (k.trans hX.symm), R'⟩
                · subst z
                  rw [if_pos (show (2 : Int32) = 2 from rfl)]
                  have k := kDs hs dk (v1 := 0) (Q := Qz) (fun y => (sg3 y).2.2) (fun i hi => by unfold Qz; rw [decide_eq_decide]; exact (sk i hi).2.2) s 9 0 0 0 rfl (by omega) rfl (by omega)
                  obtain ⟨X, hX, e63⟩ := mWs (d := dd) (M := M2') (Q := Qz) (v5 := 2) hs hc (fun i hi => by unfold Qz; rw [decide_eq_decide]; exact (sm' i hi).2.2) (ws2 M2' c') s 9 0 0 0 rfl (by omega) rfl (by omega)
                  rw [e63]
                  exact ⟨i_ext (k.trans hX.symm), R'⟩
          · rw [if_neg e2, if_neg e2]; exact ⟨rfl, h⟩
      · rw [if_neg h3, if_neg (show ¬ (0 : Int32) ≤ -2 by decide)]
        have G : ∀ X : Int32 × Mem, (if (if (0 ≤ c.toInt ∧ c.toInt ≤ 8) ∧ c ≠ 4 ∧ c ≠ 5 then (1 : Int32) else 0) = 0 then ((-2 : Int32), M1) else (if (if 1 ≤ d.toInt ∧ d.toInt ≤ 16 then (1 : Int32) else 0) = 0 then ((-2 : Int32), M1) else X)) = (-2, M1) := by
          intro X
          by_cases g1 : (0 ≤ c.toInt ∧ c.toInt ≤ 8) ∧ c ≠ 4 ∧ c ≠ 5
          · rw [if_pos g1, if_neg (by decide), if_neg (fun z => h3 ⟨g1.1, g1.2.1, g1.2.2, z⟩), if_pos rfl]
          · rw [if_neg g1, if_pos rfl]
        by_cases e0 : e < 0
        · rw [if_pos e0]; exact ⟨rfl, h⟩
        · rw [if_neg e0]
          by_cases e2 : e ≤ 2
          · rw [if_pos e2, if_neg (show ¬ (1 : Int32) = 0 by decide), if_neg (show ¬ (1 : Int32) = 0 by decide), G, if_neg (show ¬ (0 : Int32) ≤ -2 by decide)]
            exact ⟨rfl, h⟩
          · rw [if_neg e2]; exact ⟨rfl, h⟩
    · rw [if_neg h2, if_pos rfl, if_neg (show ¬ ((0 ≤ a.toInt ∧ a.toInt < 4) ∧ (0 ≤ b.toInt ∧ b.toInt < 4)) from fun z => h2 z.2), if_neg (show ¬ (0 : Int32) ≤ -1 by decide)]
      exact ⟨rfl, h⟩
  · rw [if_neg h1, if_pos rfl, if_neg (show ¬ ((0 ≤ a.toInt ∧ a.toInt < 4) ∧ (0 ≤ b.toInt ∧ b.toInt < 4)) from fun z => h1 z.1), if_neg (show ¬ (0 : Int32) ≤ -1 by decide)]
    exact ⟨rfl, h⟩
