/-! 89c: clicks and prefer on both sides -/
theorem i_div {x y : Int32} (hy : 1 ≤ y.toInt) : (x / y).toInt = x.toInt.tdiv y.toInt := by
  rw [Int32.toInt_div]
  have hr := i_rg x
  have h1 : (x.toInt.tdiv y.toInt).natAbs ≤ x.toInt.natAbs := by
    rw [Int.natAbs_tdiv]
    exact Nat.div_le_self _ _
  by_cases c : x.toInt = -2147483648
  · by_cases c1 : y.toInt = 1
    · rw [c, c1]; decide
    · have h2 : (x.toInt.tdiv y.toInt).natAbs ≤ 1073741824 := by
        rw [Int.natAbs_tdiv, c]
        have : 2 ≤ y.toInt.natAbs := by omega
        calc Int.natAbs (-2147483648) / y.toInt.natAbs ≤ Int.natAbs (-2147483648) / 2 := Nat.div_le_div_left this (by decide)
          _ = 1073741824 := by decide
      exact Int.bmod_eq_of_le (by simp; omega) (by simp; omega)
  · exact Int.bmod_eq_of_le (by simp; omega) (by simp; omega)
theorem ck3 {S : Ab} {M1 M2 : Mem} (ho : okA S) (hK : AbK S M1) (hM : AbM S M2) (hB : Bd M1 M2) {r1 r2 q : Int32} (hr1 : 0 ≤ r1.toInt ∧ r1.toInt < 4) (hr2 : 0 ≤ r2.toInt ∧ r2.toInt < 4) (hq : 0 ≤ q.toInt ∧ q.toInt < 8) (a : Int32) : ∃ (f s : Nat) (A B : Mem) (x : Int32), f_X4_click (f_X4_lay M1 (34 + 4 * nn q + nn r1) (34 + 4 * nn q + nn r2) a) (10 + nn q) = A ∧ f_X9_clicked M2 r1 r2 q a = (x, B) ∧ f + s ≤ 16 ∧ x.toInt = f + 100 * s ∧ (A.1 7 4).toInt = f ∧ (A.1 7 5).toInt = s ∧ AbK S A ∧ AbM S B ∧ Bd A B := by
  obtain ⟨n, l, R⟩ := lay3 ho hK hM hB hr1 hr2 hq a
  have e1 : f_X4_click (f_X4_lay M1 (34 + 4 * nn q + nn r1) (34 + 4 * nn q + nn r2) a) (10 + nn q) = f_X4_click_14 17 (ui (ui (f_X4_lay M1 (34 + 4 * nn q + nn r1) (34 + 4 * nn q + nn r2) a) 7 4 0) 7 5 0) (10 + nn q) 0 0 := by
    unfold f_X4_click; simp only [bnd_eq]
  have e2 : f_X9_clicked M2 r1 r2 q a = f_X9_clicked_18 17 (f_X9_lay M2 r1 r2 q a) q 0 1 0 := by
    unfold f_X9_clicked; simp only [bnd_eq]
  rw [e1, e2]
  generalize f_X4_lay M1 (34 + 4 * nn q + nn r1) (34 + 4 * nn q + nn r2) a = L1 at *
  generalize f_X9_lay M2 r1 r2 q a = L2 at *
  have R' := (R.ck (k := 4) (Or.inl rfl) 0).ck (k := 5) (Or.inr rfl) 0
  have rc : RC S n l 0 0 (ui (ui L1 7 4 0) 7 5 0) L2 0 := ⟨R', by rw [ui_at_ne (by decide), ui_at]; rfl, by rw [ui_at]; rfl, rfl⟩
  have h16 := R.2.2.2.2.2.2.1
  obtain ⟨f', s', x', rc', ex, hfs⟩ := ck2 ho hq n 17 0 n 0 0 l _ _ 0 0 0 1 0 rc rfl rfl (by omega) (by omega) (Or.inl ⟨rfl, rfl⟩) (by omega)
  refine ⟨f', s', _, (f_X9_clicked_18 17 L2 q 0 1 0).2, x', rfl, ?_, hfs, rc'.2.2.2, rc'.2.1, rc'.2.2.1, rc'.1.1, rc'.1.2.1, rc'.1.2.2.1⟩
  exact Prod.ext ex rfl
theorem eq_clicks {M1 M2 : Mem} (a b c d : Int32) (h : Rel M1 M2) : (f_X8_clicks M1 a b c d).1 = (f_X9_clicks M2 a b c d).1 ∧ Rel (f_X8_clicks M1 a b c d).2 (f_X9_clicks M2 a b c d).2 := by
  obtain ⟨S, ho, hK, hM, hB⟩ := id h
  unfold f_X8_clicks f_X9_clicks
  simp only [bnd_eq]
  by_cases hq : 0 ≤ c.toInt ∧ c.toInt < 8
  · rw [qO_in hq, oc_some]
    by_cases hr1 : 0 ≤ a.toInt ∧ a.toInt < 4
    · cases ht : S.2.2.1 (nn a) (nn c)
      · rw [rO_f hK hr1 hq ht, mRow_f hM hr1 hq ht, oc_none, if_pos rfl]
        cases f_X8_rowOf M1 b c <;> exact ⟨rfl, h⟩
      · rw [rO_t hK hr1 hq ht, mRow_t hM hr1 hq ht, oc_some, if_neg (show ¬ (1 : Int32) = 0 by decide)]
        by_cases hb : 0 ≤ b.toInt ∧ b.toInt < 4
        · cases ht2 : S.2.2.1 (nn b) (nn c)
          · rw [rO_f hK hb hq ht2, mRow_f hM hb hq ht2, oc_none, if_pos rfl]
            exact ⟨rfl, h⟩
          · rw [rO_t hK hb hq ht2, mRow_t hM hb hq ht2, oc_some, if_neg (show ¬ (1 : Int32) = 0 by decide)]
            obtain ⟨f, s, A, B, x, eA, eB, hfs, k1, k2, k3, k4, k5, k6⟩ := ck3 ho hK hM hB hr1 hb hq d
            rw [eA, eB]
            unfold f_X4_firstClicks f_X4_secondClicks
            refine ⟨i_ext ?_, ⟨S, ho, k4, k5, k6⟩⟩
            show (A.1 7 4 + 100 * A.1 7 5).toInt = x.toInt
            have z100 : (100 : Int32).toInt = 100 := rfl
            have e3 : (100 * A.1 7 5).toInt = 100 * (s : Int) := by rw [i_mul (by rw [z100]; omega) (by rw [z100]; omega), z100, k3]
            rw [i_add (by omega) (by omega), e3]; omega
        · rw [rO_out (fun z => hb z.1), mRow_out (fun z => hb z.1), oc_none, if_pos rfl]
          exact ⟨rfl, h⟩
    · rw [rO_out (fun z => hr1 z.1), mRow_out (fun z => hr1 z.1), oc_none, if_pos rfl]
      cases f_X8_rowOf M1 b c <;> exact ⟨rfl, h⟩
  · rw [qO_out hq, oc_none, mRow_out (fun z => hq z.2), if_pos rfl]
    cases f_X8_rowOf M1 a c <;> cases f_X8_rowOf M1 b c <;> exact ⟨rfl, h⟩
theorem pf2 {S : Ab} (ho : okA S) {r1 r2 q d n : Int32} (hr1 : 0 ≤ r1.toInt ∧ r1.toInt < 4) (hr2 : 0 ≤ r2.toInt ∧ r2.toInt < 4) (hq : 0 ≤ q.toInt ∧ q.toInt < 8) (hn : n.toInt ≤ 50) : ∀ (j m1 m2 : Nat) (M1 M2 : Mem) (v9 v10 : Int32), AbK S M1 → AbM S M2 → Bd M1 M2 → v10.toInt + j = n.toInt → 0 ≤ v10.toInt → j < m1 → j < m2 → (f_X8_prefer_62 m1 M1 d n (10 + nn q) (34 + 4 * nn q + nn r1) (34 + 4 * nn q + nn r2) v9 v10).1 = (f_X9_prefer_42 m2 M2 r1 r2 q d n v9 v10).1 ∧ Rel (f_X8_prefer_62 m1 M1 d n (10 + nn q) (34 + 4 * nn q + nn r1) (34 + 4 * nn q + nn r2) v9 v10).2 (f_X9_prefer_42 m2 M2 r1 r2 q d n v9 v10).2 := by
  intro j
  induction j with
  | zero =>
    intro m1 m2 M1 M2 v9 v10 hK hM hB hv h0 hm1 hm2
    obtain ⟨m1, rfl⟩ : ∃ y, m1 = y + 1 := ⟨m1 - 1, by omega⟩
    obtain ⟨m2, rfl⟩ : ∃ y, m2 = y + 1 := ⟨m2 - 1, by omega⟩
    have c : n ≤ v10 := Int32.le_iff_toInt_le.mpr (by omega)
    rw [f_X8_prefer_62, f_X9_prefer_42, if_pos c, if_pos c]
    exact ⟨rfl, ⟨S, ho, hK, hM, hB⟩⟩
  | succ j ih =>
    intro m1 m2 M1 M2 v9 v10 hK hM hB hv h0 hm1 hm2
    obtain ⟨m1, rfl⟩ : ∃ y, m1 = y + 1 := ⟨m1 - 1, by omega⟩
    obtain ⟨m2, rfl⟩ : ∃ y, m2 = y + 1 := ⟨m2 - 1, by omega⟩
    have c : ¬ n ≤ v10 := fun z => by have t := i_le z; omega
    rw [f_X8_prefer_62, f_X9_prefer_42, if_neg c, if_neg c]
    simp only [bnd_eq]
    obtain ⟨f, s, A, B, x, eA, eB, hfs, k1, k2, k3, k4, k5, k6⟩ := ck3 ho hK hM hB hr1 hr2 hq (d + v10)
    rw [eA, eB]
    unfold f_X4_firstClicks f_X4_secondClicks
    have q10 := inc_sp v10
    have z100 : (100 : Int32).toInt = 100 := rfl
    have ed : (x / 100).toInt = s := by
      rw [i_div (by rw [z100]; omega), z100, k1]
      rw [Int.tdiv_eq_ediv_of_nonneg (by omega)]
      omega
    have em : (x / 100 * 100).toInt = 100 * (s : Int) := by rw [i_mul (by rw [z100, ed]; omega) (by rw [z100, ed]; omega), z100, ed]; omega
    have er : (x - x / 100 * 100).toInt = f := by rw [i_sub (by omega) (by omega), em]; omega
    show _ ∧ _
    generalize x - x / 100 * 100 = X at *
    generalize x / 100 = Y at *
    by_cases c1 : f ≤ s
    · rw [if_pos (show A.1 7 4 ≤ A.1 7 5 from Int32.le_iff_toInt_le.mpr (by omega)), if_pos (show X ≤ Y from Int32.le_iff_toInt_le.mpr (by omega))]
      by_cases c2 : s ≤ f
      · rw [if_pos (show A.1 7 5 ≤ A.1 7 4 from Int32.le_iff_toInt_le.mpr (by omega)), if_pos (show Y ≤ X from Int32.le_iff_toInt_le.mpr (by omega)), i_add0]
        exact ih m1 m2 A B v9 (v10 + 1) k4 k5 k6 (by omega) (by omega) (by omega) (by omega)
      · rw [if_neg (show ¬ A.1 7 5 ≤ A.1 7 4 from fun z => by have t := i_le z; omega), if_neg (show ¬ Y ≤ X from fun z => by have t := i_le z; omega)]
        exact ih m1 m2 A B (v9 + 100) (v10 + 1) k4 k5 k6 (by omega) (by omega) (by omega) (by omega)
    · rw [if_neg (show ¬ A.1 7 4 ≤ A.1 7 5 from fun z => by have t := i_le z; omega), if_neg (show ¬ X ≤ Y from fun z => by have t := i_le z; omega)]
      exact ih m1 m2 A B (v9 + 1) (v10 + 1) k4 k5 k6 (by omega) (by omega) (by omega) (by omega)
theorem eq_prefer {M1 M2 : Mem} (a b c d e : Int32) (h : Rel M1 M2) : (f_X8_prefer M1 a b c d e).1 = (f_X9_prefer M2 a b c d e).1 ∧ Rel (f_X8_prefer M1 a b c d e).2 (f_X9_prefer M2 a b c d e).2 := by
  obtain ⟨S, ho, hK, hM, hB⟩ := id h
  unfold f_X8_prefer f_X9_prefer
  simp only [bnd_eq]
  by_cases hq : 0 ≤ c.toInt ∧ c.toInt < 8
  · rw [qO_in hq, oc_some]
    by_cases hr1 : 0 ≤ a.toInt ∧ a.toInt < 4
    · cases ht : S.2.2.1 (nn a) (nn c)
      · rw [rO_f hK hr1 hq ht, mRow_f hM hr1 hq ht, oc_none, if_pos rfl]
        cases f_X8_rowOf M1 b c <;> exact ⟨rfl, h⟩
      · rw [rO_t hK hr1 hq ht, mRow_t hM hr1 hq ht, oc_some, if_neg (show ¬ (1 : Int32) = 0 by decide)]
        by_cases hb : 0 ≤ b.toInt ∧ b.toInt < 4
        · cases ht2 : S.2.2.1 (nn b) (nn c)
          · rw [rO_f hK hb hq ht2, mRow_f hM hb hq ht2, oc_none, if_pos rfl]
            exact ⟨rfl, h⟩
          · rw [rO_t hK hb hq ht2, mRow_t hM hb hq ht2, oc_some, if_neg (show ¬ (1 : Int32) = 0 by decide)]
            by_cases e1 : e < 1
            · rw [if_pos e1, if_pos e1]; exact ⟨rfl, h⟩
            · rw [if_neg e1, if_neg e1]
              by_cases e2 : e ≤ 50
              · rw [if_pos e2, if_pos e2]
                have t1 : 1 ≤ e.toInt := i_nlt e1
                have t2 : e.toInt ≤ 50 := i_le e2
                exact pf2 ho hr1 hb hq t2 e.toInt.toNat _ _ M1 M2 0 0 hK hM hB (by show (0 : Int) + _ = _; omega) (by decide) (by omega) (by omega)
              · rw [if_neg e2, if_neg e2]; exact ⟨rfl, h⟩
        · rw [rO_out (fun z => hb z.1), mRow_out (fun z => hb z.1), oc_none, if_pos rfl]
          exact ⟨rfl, h⟩
    · rw [rO_out (fun z => hr1 z.1), mRow_out (fun z => hr1 z.1), oc_none, if_pos rfl]
      cases f_X8_rowOf M1 b c <;> exact ⟨rfl, h⟩
  · rw [qO_out hq, oc_none, mRow_out (fun z => hq z.2), if_pos rfl]
    cases f_X8_rowOf M1 a c <;> cases f_X8_rowOf M1 b c <;> exact ⟨rfl, h⟩
