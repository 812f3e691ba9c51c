/-! 87a: differences over one base -/
def bb (d : Int) : Int := (rd d LL).2
def tt (d : Int) : Int := (rd d LL).1
theorem bb_pos (d : Int) : 0 < bb d := rd_2pos d LL_pos
theorem bb_dvd (d : Int) : bb d ∣ LL := rd_2dvd d LL_pos
theorem tb (d : Int) : tt d * LL = d * bb d := rd_cross d LL_pos
def LB (d : Nat → Int) : Nat → Int
  | 0 => 1
  | i + 1 => LB d i / (Int.gcd (LB d i) (bb (d i)) : Int) * bb (d i)
theorem LB_ok (d : Nat → Int) : ∀ i, 0 < LB d i ∧ LB d i ∣ LL
  | 0 => ⟨by rw [LB]; decide, by rw [LB]; exact Int.one_dvd _⟩
  | i + 1 => by
    have ih := LB_ok d i
    obtain ⟨g, b', c', eg, hg, eb, ec, hb', hc', db, dc, hl⟩ := lcm_facts ih.1 (bb_pos (d i)) LL_pos ih.2 (bb_dvd (d i))
    rw [LB, ← eg, db]
    exact ⟨Int.mul_pos hb' (bb_pos (d i)), hl⟩
theorem LB_s (d : Nat → Int) (i : Nat) : LB d i ∣ LB d (i + 1) ∧ bb (d i) ∣ LB d (i + 1) := by
  have ih := LB_ok d i
  obtain ⟨g, b', c', eg, hg, eb, ec, hb', hc', db, dc, hl⟩ := lcm_facts ih.1 (bb_pos (d i)) LL_pos ih.2 (bb_dvd (d i))
  have e : LB d (i + 1) = b' * bb (d i) := by rw [LB, ← eg, db]
  refine ⟨⟨c', ?_⟩, ⟨b', ?_⟩⟩
  · rw [e, eb, ec]
    simp only [Int.mul_comm, Int.mul_left_comm, Int.mul_assoc]
  · rw [e, Int.mul_comm]
theorem LB_dv (d : Nat → Int) {i : Nat} : ∀ {s : Nat}, i < s → bb (d i) ∣ LB d s
  | 0, h => absurd h (by omega)
  | s + 1, h => by
    rcases Nat.eq_or_lt_of_le (Nat.le_of_lt_succ h) with z | z
    · rw [← z]; exact (LB_s d i).2
    · exact Int.dvd_trans (LB_dv d z) (LB_s d s).1
theorem LB_congr {d d' : Nat → Int} : ∀ s, (∀ i, i < s → d i = d' i) → LB d s = LB d' s
  | 0, _ => rfl
  | s + 1, h => by rw [LB, LB, LB_congr s (fun i hi => h i (by omega)), h s (by omega)]
/-- the bench's differences -/
def DK (d : Nat → Int) (s : Nat) (M : Mem) : Prop := (M.1 5 2).toInt = s ∧ (M.2 5 1).toInt = LB d s ∧ ∀ i, i < s → (M.2 6 i).toInt * LL = d i * LB d s
/-- the model's -/
def DM (d : Nat → Int) (s : Nat) (M : Mem) : Prop := ∀ i, i < s → (M.2 5 i).toInt = tt (d i) ∧ (M.2 6 i).toInt = bb (d i)
def DB (d : Nat → Int) (s : Nat) : Prop := ∀ i, i < s → -(16 * LL) ≤ d i ∧ d i ≤ 16 * LL
theorem cut_bd {x d B : Int} (h : x * LL = d * B) (hB : 0 < B) (hd : B ∣ LL) (h1 : -(16 * LL) ≤ d ∧ d ≤ 16 * LL) : -(16 * LL) ≤ x ∧ x ≤ 16 * LL := by
  have hL := LL_pos
  have hle := Int.le_of_dvd hL hd
  have a : x.natAbs * LL.natAbs = d.natAbs * B.natAbs := by rw [← Int.natAbs_mul, h, Int.natAbs_mul]
  have b : d.natAbs * B.natAbs ≤ d.natAbs * LL.natAbs := Nat.mul_le_mul_left _ (by omega)
  have c : x.natAbs ≤ d.natAbs := Nat.le_of_mul_le_mul_right (by omega : x.natAbs * LL.natAbs ≤ d.natAbs * LL.natAbs) (by omega)
  omega
theorem ul_at {M : Mem} {i k : Nat} {v : Int64} : (ul M i k v).2 i k = v := by rw [ul_same]; exact if_pos rfl
theorem ul_at_ne {M : Mem} {i k j : Nat} {v : Int64} (h : j ≠ k) : (ul M i k v).2 i j = M.2 i j := by rw [ul_same]; exact if_neg h
theorem ll_v : LL = 3858899838393600 := rfl
/-- scale what is there, then lay the new one behind -/
theorem kAp_50 {d : Nat → Int} {s : Nat} {x : Int} {v2 : Int64} (hs : s < 8) (hd : DB d s) (hx : -(16 * LL) ≤ x ∧ x ≤ 16 * LL) {B B' : Int} (hB : 0 < B) (hB' : 0 < B') (hBL : B' ∣ LL) (hBB : B ∣ B') (hb : bb x ∣ B') (h2 : v2.toInt = B') : ∀ (j n : Nat) (M : Mem) (v4 : Int32), v4.toInt + j = s → 0 ≤ v4.toInt → j < n → (M.1 5 2).toInt = s → (M.2 5 1).toInt = B → (∀ l, l + j < s → (M.2 6 l).toInt * LL = d l * B') → (∀ l, s ≤ l + j → l < s → (M.2 6 l).toInt * LL = d l * B) → (M.2 4 0).toInt = tt x → (M.2 4 1).toInt = bb x →
    ((f_X0_append_50 n M 4 v2 v4).1 5 2).toInt = s + 1 ∧ ((f_X0_append_50 n M 4 v2 v4).2 5 1).toInt = B' ∧ (∀ l, l < s → ((f_X0_append_50 n M 4 v2 v4).2 6 l).toInt * LL = d l * B') ∧ ((f_X0_append_50 n M 4 v2 v4).2 6 s).toInt * LL = x * B' ∧ (∀ i, i ≠ 5 → (f_X0_append_50 n M 4 v2 v4).1 i = M.1 i) ∧ ∀ i, i ≠ 5 → i ≠ 6 → (f_X0_append_50 n M 4 v2 v4).2 i = M.2 i := by
  intro j
  induction j with
  | zero =>
    intro n M v4 hv hv0 hn h5 h51 hA hC h40 h41
    obtain ⟨n, rfl⟩ : ∃ y, n = y + 1 := ⟨n - 1, by omega⟩
    rw [f_X0_append_50, if_pos (show M.1 5 2 ≤ v4 from Int32.le_iff_toInt_le.mpr (by omega))]
    simp only [bnd_eq]
    have ec : (M.1 5 2).toNatClampNeg = s := by have := clampI (x := M.1 5 2) (by omega); omega
    rw [ec]
    obtain ⟨c, hc⟩ := hb
    have hbp := bb_pos x
    have c0 : 0 < c := by
      rcases Int.lt_or_le 0 c with q | q
      · exact q
      · have := Int.mul_nonpos_of_nonneg_of_nonpos (Int.le_of_lt hbp) q
        omega
    have q1 : (v2 / f_X1_below M 4).toInt = c := by
      have e1 : (f_X1_below M 4).toInt = bb x := h41
      rw [l_div (by rw [e1]; omega), e1, h2, tdiv_ex ⟨c, hc⟩, hc]
      exact Int.mul_ediv_cancel_left _ (by omega)
    have key : tt x * c * LL = x * B' := by
      have := tb x
      rw [Int.mul_right_comm, this, hc, Int.mul_assoc]
    have hbd := cut_bd key hB' hBL hx
    have hLv : 16 * LL < 9223372036854775808 := by decide
    have e0 : (f_X1_above M 4).toInt = tt x := h40
    have e2 : (f_X1_above M 4 * (v2 / f_X1_below M 4)).toInt = tt x * c := by
      rw [l_mul (by rw [e0, q1]; omega) (by rw [e0, q1]; omega), e0, q1]
    have qi := inc_sp (M.1 5 2)
    refine ⟨?_, ?_, ?_, ?_, ?_, ?_⟩
    · rw [ui_at]; show (M.1 5 2 + 1).toInt = _; omega
    · show ((ul (ul M 6 s (f_X1_above M 4 * (v2 / f_X1_below M 4))) 5 1 v2).2 5 1).toInt = _
      rw [ul_at]; exact h2
    · intro l hl
      show ((ul (ul M 6 s (f_X1_above M 4 * (v2 / f_X1_below M 4))) 5 1 v2).2 6 l).toInt * LL = _
      rw [ul_ne (by decide), ul_at_ne (by omega)]
      exact hA l (by omega)
    · show ((ul (ul M 6 s (f_X1_above M 4 * (v2 / f_X1_below M 4))) 5 1 v2).2 6 s).toInt * LL = _
      rw [ul_ne (by decide), ul_at, e2]
      exact key
    · intro i hi
      rw [ui_ne hi]
      rfl
    · intro i hi hi6
      show (ul (ul M 6 s (f_X1_above M 4 * (v2 / f_X1_below M 4))) 5 1 v2).2 i = _
      rw [ul_ne hi, ul_ne hi6]
  | succ j ih =>
    intro n M v4 hv hv0 hn h5 h51 hA hC h40 h41
    obtain ⟨n, rfl⟩ : ∃ y, n = y + 1 := ⟨n - 1, by omega⟩
    rw [f_X0_append_50, if_neg (show ¬ M.1 5 2 ≤ v4 from fun z => by have t := i_le z; omega), if_neg (show ¬ (8 : Int32) ≤ v4 from fun z => by have t : 8 ≤ v4.toInt := i_le z; omega)]
    simp only [bnd_eq]
    have qi := inc_sp v4
    obtain ⟨p, ep, hp⟩ : ∃ p : Nat, v4.toNatClampNeg = p ∧ v4.toInt = p := ⟨_, rfl, (clampI hv0).symm⟩
    rw [ep]
    obtain ⟨c, hc⟩ := hBB
    have q1 : (v2 / M.2 5 1).toInt = c := by
      rw [l_div (by rw [h51]; omega), h51, h2, tdiv_ex ⟨c, hc⟩, hc]
      exact Int.mul_ediv_cancel_left _ (by omega)
    have h6 := hC p (by omega) (by omega)
    have key : (M.2 6 p).toInt * c * LL = d p * B' := by
      rw [Int.mul_right_comm, h6, hc, Int.mul_assoc]
    have hbd := cut_bd key hB' hBL (hd p (by omega))
    have hLv : 16 * LL < 9223372036854775808 := by decide
    have e2 : (M.2 6 p * (v2 / M.2 5 1)).toInt = (M.2 6 p).toInt * c := by
      rw [l_mul (by rw [q1]; omega) (by rw [q1]; omega), q1]
    have r := ih n (ul M 6 p (M.2 6 p * (v2 / M.2 5 1))) (v4 + 1) (by omega) (by omega) (by omega) h5 (by rw [ul_ne (by decide)]; exact h51)
      (fun l hl => by
        by_cases z : l = p
        · subst z; rw [ul_at, e2]; exact key
        · rw [ul_at_ne z]; exact hA l (by omega))
      (fun l hl hl2 => by rw [ul_at_ne (by omega)]; exact hC l (by omega) hl2)
      (by rw [ul_ne (by decide)]; exact h40) (by rw [ul_ne (by decide)]; exact h41)
    refine ⟨r.1, r.2.1, r.2.2.1, r.2.2.2.1, r.2.2.2.2.1, ?_⟩
    intro i hi hi6
    rw [r.2.2.2.2.2 i hi hi6, ul_ne hi6]
theorem kAp {d : Nat → Int} {s : Nat} {x : Int} {M : Mem} (hs : s < 8) (hd : DB d s) (hx : -(16 * LL) ≤ x ∧ x ≤ 16 * LL) (hK : DK d s M) (h40 : (M.2 4 0).toInt = tt x) (h41 : (M.2 4 1).toInt = bb x) : DK (fun i => if i = s then x else d i) (s + 1) (f_X0_append M 4) ∧ (∀ i, i ≠ 5 → (f_X0_append M 4).1 i = M.1 i) ∧ ∀ i, i ≠ 5 → i ≠ 6 → (f_X0_append M 4).2 i = M.2 i := by
  obtain ⟨k1, k2, k3⟩ := hK
  have hB := LB_ok d s
  have hbp := bb_pos x
  have hLv : LL < 9223372036854775808 := LL_lt
  have hbl := Int.le_of_dvd LL_pos (bb_dvd x)
  have hBl := Int.le_of_dvd LL_pos hB.2
  have eL : LB (fun i => if i = s then x else d i) s = LB d s := LB_congr s (fun i hi => if_neg (by omega))
  have eL1 : LB (fun i => if i = s then x else d i) (s + 1) = LB d s / (Int.gcd (LB d s) (bb x) : Int) * bb x := by
    rw [LB, eL, if_pos rfl]
  have hB1 := LB_ok (fun i => if i = s then x else d i) (s + 1)
  have hS := LB_s (fun i => if i = s then x else d i) s
  have hBl1 := Int.le_of_dvd LL_pos hB1.2
  rw [eL, if_pos rfl] at hS
  have em : (f_X8_commonMultiple (M.2 5 1) (f_X1_below M 4)).toInt = LB (fun i => if i = s then x else d i) (s + 1) := by
    unfold f_X8_commonMultiple
    have e1 : (f_X1_below M 4).toInt = bb x := h41
    generalize f_X1_below M 4 = y at *
    have G : (f_X8_commonDivisor (M.2 5 1) y).toInt = (Int.gcd (LB d s) (bb x) : Int) := by
      have hg := gcd_pos (N := LB d s) hbp
      rw [cdG (by omega) (by omega), k2, e1]
      omega
    have hg := gcd_pos (N := LB d s) hbp
    have q : (M.2 5 1 / f_X8_commonDivisor (M.2 5 1) y).toInt = LB d s / (Int.gcd (LB d s) (bb x) : Int) := by
      rw [l_div (by rw [G]; omega), G, k2, tdiv_ex (Int.gcd_dvd_left _ _)]
    rw [bnd_eq, l_mul (by rw [q, e1, ← eL1]; omega) (by rw [q, e1, ← eL1]; omega), q, e1, eL1]
  have e : f_X0_append M 4 = f_X0_append_50 9 M 4 (f_X8_commonMultiple (M.2 5 1) (f_X1_below M 4)) 0 := by
    unfold f_X0_append
    simp only [bnd_eq]
    rw [if_neg (show ¬ M.1 5 2 < 0 from fun z => by have t : (M.1 5 2).toInt < 0 := i_lt z; omega), if_neg (show ¬ (8 : Int32) ≤ M.1 5 2 from fun z => by have t : 8 ≤ (M.1 5 2).toInt := i_le z; omega), if_neg (show ¬ M.2 5 1 < 1 from fun z => by have t : (M.2 5 1).toInt < 1 := l_lt z; omega), if_pos (show (1 : Int64) ≤ f_X1_below M 4 from Int64.le_iff_toInt_le.mpr (by show (1 : Int) ≤ (M.2 4 1).toInt; omega))]
  have R := kAp_50 hs hd hx hB.1 hB1.1 hB1.2 hS.1 hS.2 em s 9 M 0 (by show (0 : Int) + _ = _; omega) (by decide) (by omega) k1 k2 (fun l hl => absurd hl (by omega)) (fun l _ hl => k3 l hl) h40 h41
  rw [← e] at R
  refine ⟨⟨by rw [R.1]; rfl, R.2.1, ?_⟩, R.2.2.2.2.1, R.2.2.2.2.2⟩
  intro i hi
  show _ = (if i = s then x else d i) * _
  by_cases z : i = s
  · rw [if_pos z, z]; exact R.2.2.2.1
  · rw [if_neg z]; exact R.2.2.1 i (by omega)
