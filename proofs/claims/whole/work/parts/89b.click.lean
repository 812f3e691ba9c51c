/-! 89b: laid, clicks, prefer -/
theorem i_ltnle {x y : Int32} (h : x < y) : ¬ y ≤ x := fun z => by
  have a := i_lt h
  have b := i_le z
  omega
theorem lay2 {S : Ab} (ho : okA S) {r1 r2 q : Int32} (hr1 : 0 ≤ r1.toInt ∧ r1.toInt < 4) (hr2 : 0 ≤ r2.toInt ∧ r2.toInt < 4) (hq : 0 ≤ q.toInt ∧ q.toInt < 8) : ∀ (j m1 m2 n : Nat) (l : Nat → Nat) (M1 M2 : Mem) (v4 : Int32), RLy S n l M1 M2 → v4.toInt + j = 16 → 0 ≤ v4.toInt → v4.toInt ≤ n → j < m1 → 16 - n < m2 → ∃ n' l', RLy S n' l' (f_X4_lay_18 m1 M1 (34 + 4 * nn q + nn r1) (34 + 4 * nn q + nn r2) v4) (f_X9_lay_11 m2 M2 r1 r2 q) := by
  intro j
  induction j with
  | zero =>
    intro m1 m2 n l M1 M2 v4 h h4 h40 h4n hm1 hm2
    obtain ⟨m1, rfl⟩ : ∃ y, m1 = y + 1 := ⟨m1 - 1, by omega⟩
    obtain ⟨m2, rfl⟩ : ∃ y, m2 = y + 1 := ⟨m2 - 1, by omega⟩
    have h13 := h.2.2.2.2.2.1
    rw [f_X4_lay_18, f_X9_lay_11, if_pos (show (16 : Int32) ≤ v4 from Int32.le_iff_toInt_le.mpr (by show (16 : Int) ≤ v4.toInt; omega)), if_pos (show (16 : Int32) ≤ M2.1 0 13 from Int32.le_iff_toInt_le.mpr (by show (16 : Int) ≤ (M2.1 0 13).toInt; omega))]
    exact ⟨n, l, h⟩
  | succ j ih =>
    intro m1 m2 n l M1 M2 v4 h h4 h40 h4n hm1 hm2
    obtain ⟨m1, rfl⟩ : ∃ y, m1 = y + 1 := ⟨m1 - 1, by omega⟩
    obtain ⟨m2, rfl⟩ : ∃ y, m2 = y + 1 := ⟨m2 - 1, by omega⟩
    have h2 := h.2.2.2.2.1
    have h13 := h.2.2.2.2.2.1
    have h16 := h.2.2.2.2.2.2.1
    have q4 := inc_sp v4
    rw [f_X4_lay_18, f_X9_lay_11, if_neg (show ¬ (16 : Int32) ≤ v4 from fun z => by have t : 16 ≤ v4.toInt := i_le z; omega)]
    simp only [bnd_eq]
    unfold f_X4_canLay
    simp only [bnd_eq]
    by_cases c : n = 16
    · rw [if_pos (show (16 : Int32) ≤ M1.1 7 2 from Int32.le_iff_toInt_le.mpr (by show (16 : Int) ≤ (M1.1 7 2).toInt; omega)), if_pos rfl, if_pos (show (16 : Int32) ≤ M2.1 0 13 from Int32.le_iff_toInt_le.mpr (by show (16 : Int) ≤ (M2.1 0 13).toInt; omega))]
      exact ⟨n, l, h⟩
    · rw [if_neg (show ¬ (16 : Int32) ≤ M1.1 7 2 from fun z => by have t : 16 ≤ (M1.1 7 2).toInt := i_le z; omega), if_neg (show ¬ (16 : Int32) ≤ M2.1 0 13 from fun z => by have t : 16 ≤ (M2.1 0 13).toInt := i_le z; omega)]
      obtain ⟨e1, x1⟩ := nx ho h hr1 hq
      obtain ⟨e2, x2⟩ := nx ho h hr2 hq
      rw [e1, e2]
      have em1 : (-1 : Int32).toInt = -1 := rfl
      have body : (0 ≤ (f_X9_nextOf M2 r1 q).toInt ∨ 0 ≤ (f_X9_nextOf M2 r2 q).toInt) → ∃ n' l', RLy S n' l' (if ((f_X4_draw M1).1 - (f_X4_draw M1).1 / 2 * 2) = 0 then f_X4_lay_18 m1 (f_X4_layNext (f_X4_layNext (f_X4_draw M1).2 (34 + 4 * nn q + nn r1) 0) (34 + 4 * nn q + nn r2) 1) (34 + 4 * nn q + nn r1) (34 + 4 * nn q + nn r2) (v4 + 1) else f_X4_lay_18 m1 (f_X4_layNext (f_X4_layNext (f_X4_draw M1).2 (34 + 4 * nn q + nn r2) 1) (34 + 4 * nn q + nn r1) 0) (34 + 4 * nn q + nn r1) (34 + 4 * nn q + nn r2) (v4 + 1)) (if ((f_X9_draw M2).1 - (f_X9_draw M2).1 / 2 * 2) = 0 then f_X9_lay_11 m2 (f_X9_layOne (f_X9_layOne (f_X9_draw M2).2 r1 q 0) r2 q 1) r1 r2 q else f_X9_lay_11 m2 (f_X9_layOne (f_X9_layOne (f_X9_draw M2).2 r2 q 1) r1 q 0) r1 r2 q) := by
        intro hn
        obtain ⟨d1, d2⟩ := dr2 h
        rw [d1]
        by_cases cp : ((f_X9_draw M2).1 - (f_X9_draw M2).1 / 2 * 2) = 0
        · rw [if_pos cp, if_pos cp]
          have up := ly_up (M := M2) (x := r1) (y := r2) (q := q) (a := 0) (b := 1) (by omega) (by omega) hn
          obtain ⟨n1, l1, R1⟩ := ly2 ho d2 hr1 hq (a := 0) (Or.inl rfl)
          obtain ⟨n2, l2, R2⟩ := ly2 ho R1 hr2 hq (a := 1) (Or.inr rfl)
          have k := R2.2.2.2.2.2.1
          exact ih m1 m2 n2 l2 _ _ (v4 + 1) R2 (by omega) (by omega) (by omega) (by omega) (by omega)
        · rw [if_neg cp, if_neg cp]
          have up := ly_up (M := M2) (x := r2) (y := r1) (q := q) (a := 1) (b := 0) (by omega) (by omega) hn.symm
          obtain ⟨n1, l1, R1⟩ := ly2 ho d2 hr2 hq (a := 1) (Or.inr rfl)
          obtain ⟨n2, l2, R2⟩ := ly2 ho R1 hr1 hq (a := 0) (Or.inl rfl)
          have k := R2.2.2.2.2.2.1
          exact ih m1 m2 n2 l2 _ _ (v4 + 1) R2 (by omega) (by omega) (by omega) (by omega) (by omega)
      by_cases c1 : f_X9_nextOf M2 r1 q = -1
      · rw [if_pos c1, if_neg (show ¬ (0 : Int32) ≤ f_X9_nextOf M2 r1 q from by rw [c1]; decide)]
        by_cases c2 : f_X9_nextOf M2 r2 q = -1
        · rw [if_pos c2, if_pos rfl, if_pos (show f_X9_nextOf M2 r2 q < 0 from by rw [c2]; decide)]
          exact ⟨n, l, h⟩
        · rcases x2 with z | ⟨d, hd, z, _⟩
          · exact absurd z c2
          · have dt := ofn_ti d (by omega)
            rw [if_neg c2, if_neg (show ¬ (1 : Int32) = 0 by decide), if_neg (show ¬ f_X9_nextOf M2 r2 q < 0 from fun y => by have t : (f_X9_nextOf M2 r2 q).toInt < 0 := i_lt y; rw [z] at t; omega)]
            exact body (Or.inr (by rw [z]; omega))
      · rcases x1 with z | ⟨d, hd, z, _⟩
        · exact absurd z c1
        · have dt := ofn_ti d (by omega)
          rw [if_neg c1, if_neg (show ¬ (1 : Int32) = 0 by decide), if_pos (show (0 : Int32) ≤ f_X9_nextOf M2 r1 q from Int32.le_iff_toInt_le.mpr (by rw [z]; show (0 : Int) ≤ _; omega))]
          exact body (Or.inl (by rw [z]; omega))
theorem lay3 {S : Ab} {M1 M2 : Mem} (ho : okA S) (hK : AbK S M1) (hM : AbM S M2) (hB : Bd M1 M2) {r1 r2 q : Int32} (hr1 : 0 ≤ r1.toInt ∧ r1.toInt < 4) (hr2 : 0 ≤ r2.toInt ∧ r2.toInt < 4) (hq : 0 ≤ q.toInt ∧ q.toInt < 8) (a : Int32) : ∃ n l, RLy S n l (f_X4_lay M1 (34 + 4 * nn q + nn r1) (34 + 4 * nn q + nn r2) a) (f_X9_lay M2 r1 r2 q a) := by
  have e1 : f_X4_lay M1 (34 + 4 * nn q + nn r1) (34 + 4 * nn q + nn r2) a = f_X4_lay_18 17 (ui (ui (ui M1 7 3 a) 7 2 0) 7 6 0) (34 + 4 * nn q + nn r1) (34 + 4 * nn q + nn r2) 0 := by
    unfold f_X4_lay; simp only [bnd_eq]
  have e2 : f_X9_lay M2 r1 r2 q a = f_X9_lay_11 17 (ui (ui M2 0 10 a) 0 13 0) r1 r2 q := by
    unfold f_X9_lay; simp only [bnd_eq]
    rw [ui_at]
    rfl
  rw [e1, e2]
  refine lay2 ho hr1 hr2 hq 16 17 17 0 (fun _ => 0) _ _ 0 ?_ rfl (by decide) (by decide) (by omega) (by omega)
  refine ⟨hK.of18 (fun i h18 => ?_), hM.of14 ?_ ?_ ?_ ?_, hB.same rfl rfl, ?_, ?_, ?_, by omega, fun i hi => absurd hi (by omega), ?_⟩
  · rw [ui_ne (by omega), ui_ne (by omega), ui_ne (by omega)]
  · rw [ui_ne (by decide), ui_ne (by decide)]
  · rw [ui_ne (by decide), ui_ne (by decide)]
  · rw [ui_ne (by decide), ui_ne (by decide)]
  · rw [ui_ne (by decide), ui_ne (by decide)]
  · rw [ui_at_ne (by decide), ui_at_ne (by decide), ui_at, ui_at_ne (by decide), ui_at]
  · rw [ui_at_ne (by decide), ui_at]; rfl
  · rw [ui_at]; rfl
  · intro d hd
    rw [ui_at]
    show (0#32).getLsbD d = _
    rw [BitVec.getLsbD_zero]
    rfl
theorem RLy.rel {S : Ab} {M1 M2 : Mem} {n : Nat} {l : Nat → Nat} (ho : okA S) (h : RLy S n l M1 M2) : Rel M1 M2 := ⟨S, ho, h.1, h.2.1, h.2.2.1⟩
theorem eq_laid {M1 M2 : Mem} (a b c d e : Int32) (h : Rel M1 M2) : (f_X8_laid M1 a b c d e).1 = (f_X9_laid M2 a b c d e).1 ∧ Rel (f_X8_laid M1 a b c d e).2 (f_X9_laid M2 a b c d e).2 := by
  obtain ⟨S, ho, hK, hM, hB⟩ := id h
  unfold f_X8_laid f_X9_laid
  simp only [bnd_eq]
  by_cases ha : (0 ≤ a.toInt ∧ a.toInt < 4) ∧ (0 ≤ c.toInt ∧ c.toInt < 8)
  · obtain ⟨hr1, hq⟩ := ha
    cases ht : S.2.2.1 (nn a) (nn c)
    · rw [rO_f hK hr1 hq ht, mRow_f hM hr1 hq ht, oc_none, if_pos rfl]
      cases f_X8_rowOf M1 b c <;> exact ⟨rfl, h⟩
    · rw [rO_t hK hr1 hq ht, mRow_t hM hr1 hq ht, oc_some, if_neg (show ¬ (1 : Int32) = 0 by decide)]
      by_cases hb : 0 ≤ b.toInt ∧ b.toInt < 4
      · cases ht2 : S.2.2.1 (nn b) (nn c)
        · rw [rO_f hK hb hq ht2, mRow_f hM hb hq ht2, oc_none, if_pos rfl]
          exact ⟨rfl, h⟩
        · rw [rO_t hK hb hq ht2, mRow_t hM hb hq ht2, oc_some, if_neg (show ¬ (1 : Int32) = 0 by decide)]
          obtain ⟨n, l, R⟩ := lay3 ho hK hM hB hr1 hb hq d
          generalize f_X4_lay M1 (34 + 4 * nn c + nn a) (34 + 4 * nn c + nn b) d = M1' at *
          generalize f_X9_lay M2 a b c d = M2' at *
          have R' := R.rel ho
          have h2 := R.2.2.2.2.1
          have h13 := R.2.2.2.2.2.1
          have h16 := R.2.2.2.2.2.2.1
          unfold f_X4_documentAt f_X4_isFromSecond
          by_cases e0 : e < 0
          · rw [if_pos e0, if_pos rfl, if_pos e0]; exact ⟨rfl, R'⟩
          · have t0 : 0 ≤ e.toInt := i_nlt e0
            rw [if_neg e0, if_neg e0]
            by_cases en : e < M2'.1 0 13
            · have t := i_lt en
              have ec : e.toNatClampNeg = nn e := rfl
              have ev := nn_ti t0
              obtain ⟨g1, g2, g3, g4⟩ := R.2.2.2.2.2.2.2.1 (nn e) (by omega)
              rw [if_neg (show ¬ M1'.1 7 2 ≤ e from fun z => by have t := i_le z; omega), if_neg (show ¬ (16 : Int32) ≤ e from fun z => by have t : 16 ≤ e.toInt := i_le z; omega), if_pos en, if_neg (show ¬ M1'.1 8 e.toNatClampNeg = -1 from fun z => by rw [ec] at z; rw [z] at g1; have : (-1 : Int32).toInt = -1 := rfl; omega), if_neg e0, if_neg (show ¬ (16 : Int32) ≤ e from fun z => by have t : 16 ≤ e.toInt := i_le z; omega), ec, g3]
              have gd : M1'.1 8 (nn e) = M2'.1 7 (nn e) := i_ext (g1.trans g2.symm)
              by_cases cz : M2'.1 8 (nn e) = 0
              · rw [if_pos cz, if_pos rfl, if_pos cz, i_add0, gd]; exact ⟨rfl, R'⟩
              · rw [if_neg cz, if_neg (show ¬ (1 : Int32) = 0 by decide), if_neg cz, gd]; exact ⟨rfl, R'⟩
            · have t := i_nlt en
              rw [if_pos (show M1'.1 7 2 ≤ e from Int32.le_iff_toInt_le.mpr (by omega)), if_pos rfl, if_neg en, if_neg e0]; exact ⟨rfl, R'⟩
      · rw [rO_out (fun z => hb z.1), mRow_out (fun z => hb z.1), oc_none, if_pos rfl]
        exact ⟨rfl, h⟩
  · rw [rO_out ha, mRow_out ha, oc_none, if_pos rfl]
    cases f_X8_rowOf M1 b c <;> exact ⟨rfl, h⟩
theorem RLy.ck {S : Ab} {M1 M2 : Mem} {n : Nat} {l : Nat → Nat} (h : RLy S n l M1 M2) {k : Nat} (hk : k = 4 ∨ k = 5) (v : Int32) : RLy S n l (ui M1 7 k v) M2 := by
  obtain ⟨hK, hM, hB, h3, h2, h13, h16, hi, hb⟩ := h
  refine ⟨hK.of18 (fun i h18 => by rw [ui_ne (by omega)]), hM, hB.same rfl rfl, ?_, ?_, h13, h16, ?_, ?_⟩
  · rw [ui_at_ne (by omega)]; exact h3
  · rw [ui_at_ne (by omega)]; exact h2
  · intro i hin
    rw [ui_ne (by decide), ui_ne (by decide)]; exact hi i hin
  · intro d hd
    rw [ui_at_ne (by omega)]; exact hb d hd
theorem dr_fr (M : Mem) : (f_X4_draw M).2.1 7 4 = M.1 7 4 ∧ (f_X4_draw M).2.1 7 5 = M.1 7 5 := by
  unfold f_X4_draw
  simp only [bnd_eq]
  exact ⟨by rw [ui_at_ne (by decide)], by rw [ui_at_ne (by decide)]⟩
/-- what both sides are at when they click -/
def RC (S : Ab) (n : Nat) (l : Nat → Nat) (f s : Nat) (M1 M2 : Mem) (x : Int32) : Prop := RLy S n l M1 M2 ∧ (M1.1 7 4).toInt = f ∧ (M1.1 7 5).toInt = s ∧ x.toInt = f + 100 * s
theorem ck2 {S : Ab} (ho : okA S) {q : Int32} (hq : 0 ≤ q.toInt ∧ q.toInt < 8) : ∀ (j m i n f s : Nat) (l : Nat → Nat) (M1 M2 : Mem) (v2 v3 v5 v6 v7 : Int32), RC S n l f s M1 M2 v5 → v3.toInt = i → v7.toInt = i → i + j = n → f + s ≤ i → ((v2 = 0 ∧ v6 = 1) ∨ (v2 = 1 ∧ v6 = 0)) → j < m → ∃ f' s' x', RC S n l f' s' (f_X4_click_14 m M1 (10 + nn q) v2 v3) (f_X9_clicked_18 m M2 q v5 v6 v7).2 x' ∧ (f_X9_clicked_18 m M2 q v5 v6 v7).1 = x' ∧ f' + s' ≤ 16 := by
  intro j
  have hqn : nn q < 8 := nn_lt hq.1 (by omega)
  induction j with
  | zero =>
    intro m i n f s l M1 M2 v2 v3 v5 v6 v7 h h3 h7 hin hfs hv hm
    obtain ⟨m, rfl⟩ : ∃ y, m = y + 1 := ⟨m - 1, by omega⟩
    have k2 := h.1.2.2.2.2.1
    have k13 := h.1.2.2.2.2.2.1
    have k16 := h.1.2.2.2.2.2.2.1
    rw [f_X4_click_14, f_X9_clicked_18, if_pos (show M1.1 7 2 ≤ v3 from Int32.le_iff_toInt_le.mpr (by omega)), if_pos (show M2.1 0 13 ≤ v7 from Int32.le_iff_toInt_le.mpr (by omega))]
    exact ⟨f, s, v5, h, rfl, by omega⟩
  | succ j ih =>
    intro m i n f s l M1 M2 v2 v3 v5 v6 v7 h h3 h7 hin hfs hv hm
    obtain ⟨m, rfl⟩ : ∃ y, m = y + 1 := ⟨m - 1, by omega⟩
    have k2 := h.1.2.2.2.2.1
    have k13 := h.1.2.2.2.2.2.1
    have k16 := h.1.2.2.2.2.2.2.1
    have q3 := inc_sp v3
    have q7 := inc_sp v7
    have c3 : v3.toNatClampNeg = i := by have := clampI (x := v3) (by omega); omega
    have c7 : v7.toNatClampNeg = i := by have := clampI (x := v7) (by omega); omega
    rw [f_X4_click_14, f_X9_clicked_18, if_neg (show ¬ M1.1 7 2 ≤ v3 from fun z => by have t := i_le z; omega), if_neg (show ¬ M2.1 0 13 ≤ v7 from fun z => by have t := i_le z; omega), if_neg (show ¬ (16 : Int32) ≤ v3 from fun z => by have t : 16 ≤ v3.toInt := i_le z; omega)]
    rcases hv with ⟨z2, z6⟩ | ⟨z2, z6⟩
    · subst z2
      subst z6
      rw [if_pos (show (0 : Int32) = 0 from rfl), if_neg (show ¬ (1 : Int32) = 0 by decide)]
      simp only [bnd_eq]
      rw [c3, c7]
      obtain ⟨d1, d2⟩ := dr2 h.1
      have df := dr_fr M1
      obtain ⟨g1, g2, g3, g4⟩ := d2.2.2.2.2.2.2.2.1 i (by omega)
      obtain ⟨w1, w2, w3, w4⟩ := h.1.2.2.2.2.2.2.2.1 i (by omega)
      have eg1 := kGrade d2.1 hqn (d := (f_X4_draw M1).2.1 8 i) ⟨by omega, by omega⟩
      have eg2 := mGrade ho h.1.2.1 hq (d := M2.1 7 i) ⟨by omega, by omega⟩
      have n1 : nn ((f_X4_draw M1).2.1 8 i) = l i := by have := nn_ti (a := (f_X4_draw M1).2.1 8 i) (by omega); omega
      have n2 : nn (M2.1 7 i) = l i := by have := nn_ti (a := M2.1 7 i) (by omega); omega
      rw [n1] at eg1
      rw [n2] at eg2
      have hg := ho.1 (nn q) (l i)
      have eg : f_X6_gradeOf (f_X4_draw M1).2 (10 + nn q) ((f_X4_draw M1).2.1 8 i) = f_X9_gradeOf M2 q (M2.1 7 i) := i_ext (eg1.trans eg2.symm)
      rw [eg, d1, g3]
      rw [← eg2] at hg
      generalize f_X9_gradeOf M2 q (M2.1 7 i) = g at *
      generalize (f_X9_draw M2).1 - (f_X9_draw M2).1 / 100 * 100 = X at *
      have f1 := h.2.1
      have f2 := h.2.2.1
      have f3 := h.2.2.2
      have q4 := inc_sp (M1.1 7 4)
      have q5 := inc_sp (M1.1 7 5)
      have z100 : (100 : Int32).toInt = 100 := rfl
      -- all but the chance
      have fin : ∀ T : Int32, ∃ f' s' x', RC S n l f' s' (if T ≤ X then f_X4_click_14 m (f_X4_draw M1).2 (10 + nn q) 0 (v3 + 1) else if (f_X9_draw M2).2.1 8 i = 0 then (if (50 : Int32) ≤ (f_X4_draw (ui (f_X4_draw M1).2 7 4 ((f_X4_draw M1).2.1 7 4 + 1))).1 - (f_X4_draw (ui (f_X4_draw M1).2 7 4 ((f_X4_draw M1).2.1 7 4 + 1))).1 / 100 * 100 then f_X4_click_14 m (f_X4_draw (ui (f_X4_draw M1).2 7 4 ((f_X4_draw M1).2.1 7 4 + 1))).2 (10 + nn q) 0 (v3 + 1) else f_X4_click_14 m (f_X4_draw (ui (f_X4_draw M1).2 7 4 ((f_X4_draw M1).2.1 7 4 + 1))).2 (10 + nn q) 1 (v3 + 1)) else (if (50 : Int32) ≤ (f_X4_draw (ui (f_X4_draw M1).2 7 5 ((f_X4_draw M1).2.1 7 5 + 1))).1 - (f_X4_draw (ui (f_X4_draw M1).2 7 5 ((f_X4_draw M1).2.1 7 5 + 1))).1 / 100 * 100 then f_X4_click_14 m (f_X4_draw (ui (f_X4_draw M1).2 7 5 ((f_X4_draw M1).2.1 7 5 + 1))).2 (10 + nn q) 0 (v3 + 1) else f_X4_click_14 m (f_X4_draw (ui (f_X4_draw M1).2 7 5 ((f_X4_draw M1).2.1 7 5 + 1))).2 (10 + nn q) 1 (v3 + 1)))
          (if T ≤ X then f_X9_clicked_18 m (f_X9_draw M2).2 q v5 1 (v7 + 1) else if (f_X9_draw M2).2.1 8 i = 0 then (if (f_X9_draw (f_X9_draw M2).2).1 - (f_X9_draw (f_X9_draw M2).2).1 / 100 * 100 < 50 then f_X9_clicked_18 m (f_X9_draw (f_X9_draw M2).2).2 q (v5 + 1) 0 (v7 + 1) else f_X9_clicked_18 m (f_X9_draw (f_X9_draw M2).2).2 q (v5 + 1) 1 (v7 + 1)) else (if (f_X9_draw (f_X9_draw M2).2).1 - (f_X9_draw (f_X9_draw M2).2).1 / 100 * 100 < 50 then f_X9_clicked_18 m (f_X9_draw (f_X9_draw M2).2).2 q (v5 + 100) 0 (v7 + 1) else f_X9_clicked_18 m (f_X9_draw (f_X9_draw M2).2).2 q (v5 + 100) 1 (v7 + 1))).2 x' ∧ (if T ≤ X then f_X9_clicked_18 m (f_X9_draw M2).2 q v5 1 (v7 + 1) else if (f_X9_draw M2).2.1 8 i = 0 then (if (f_X9_draw (f_X9_draw M2).2).1 - (f_X9_draw (f_X9_draw M2).2).1 / 100 * 100 < 50 then f_X9_clicked_18 m (f_X9_draw (f_X9_draw M2).2).2 q (v5 + 1) 0 (v7 + 1) else f_X9_clicked_18 m (f_X9_draw (f_X9_draw M2).2).2 q (v5 + 1) 1 (v7 + 1)) else (if (f_X9_draw (f_X9_draw M2).2).1 - (f_X9_draw (f_X9_draw M2).2).1 / 100 * 100 < 50 then f_X9_clicked_18 m (f_X9_draw (f_X9_draw M2).2).2 q (v5 + 100) 0 (v7 + 1) else f_X9_clicked_18 m (f_X9_draw (f_X9_draw M2).2).2 q (v5 + 100) 1 (v7 + 1))).1 = x' ∧ f' + s' ≤ 16 := by
        intro T
        by_cases cT : T ≤ X
        · rw [if_pos cT, if_pos cT]
          exact ih m (i + 1) n f s l _ _ 0 (v3 + 1) v5 1 (v7 + 1) ⟨d2, by rw [df.1]; exact f1, by rw [df.2]; exact f2, f3⟩ (by omega) (by omega) (by omega) (by omega) (Or.inl ⟨rfl, rfl⟩) (by omega)
        · rw [if_neg cT, if_neg cT]
          by_cases c8 : (f_X9_draw M2).2.1 8 i = 0
          · rw [if_pos c8, if_pos c8]
            have R1 := d2.ck (k := 4) (Or.inl rfl) ((f_X4_draw M1).2.1 7 4 + 1)
            obtain ⟨e1, e2⟩ := dr2 R1
            have ef := dr_fr (ui (f_X4_draw M1).2 7 4 ((f_X4_draw M1).2.1 7 4 + 1))
            rw [ui_at, ui_at_ne (show (5 : Nat) ≠ 4 by decide), df.1, df.2] at ef
            have q55 := inc_sp v5
            rw [df.1] at e1 e2 ⊢
            have RC2 : RC S n l (f + 1) s (f_X4_draw (ui (f_X4_draw M1).2 7 4 (M1.1 7 4 + 1))).2 (f_X9_draw (f_X9_draw M2).2).2 (v5 + 1) := ⟨e2, by rw [ef.1]; omega, by rw [ef.2]; exact f2, by omega⟩
            rw [e1]
            by_cases c50 : (f_X9_draw (f_X9_draw M2).2).1 - (f_X9_draw (f_X9_draw M2).2).1 / 100 * 100 < 50
            · rw [if_pos c50, if_neg (i_ltnle c50)]
              exact ih m (i + 1) n (f + 1) s l _ _ 1 (v3 + 1) _ 0 (v7 + 1) RC2 (by omega) (by omega) (by omega) (by omega) (Or.inr ⟨rfl, rfl⟩) (by omega)
            · have t := i_nlt c50
              rw [if_neg c50, if_pos (Int32.le_iff_toInt_le.mpr t)]
              exact ih m (i + 1) n (f + 1) s l _ _ 0 (v3 + 1) _ 1 (v7 + 1) RC2 (by omega) (by omega) (by omega) (by omega) (Or.inl ⟨rfl, rfl⟩) (by omega)
          · rw [if_neg c8, if_neg c8]
            have R1 := d2.ck (k := 5) (Or.inr rfl) ((f_X4_draw M1).2.1 7 5 + 1)
            obtain ⟨e1, e2⟩ := dr2 R1
            have ef := dr_fr (ui (f_X4_draw M1).2 7 5 ((f_X4_draw M1).2.1 7 5 + 1))
            rw [ui_at, ui_at_ne (show (4 : Nat) ≠ 5 by decide), df.1, df.2] at ef
            rw [df.2] at e1 e2 ⊢
            have RC2 : RC S n l f (s + 1) (f_X4_draw (ui (f_X4_draw M1).2 7 5 (M1.1 7 5 + 1))).2 (f_X9_draw (f_X9_draw M2).2).2 (v5 + 100) := ⟨e2, by rw [ef.1]; exact f1, by rw [ef.2]; omega, by rw [i_add (by omega) (by omega), z100]; omega⟩
            rw [e1]
            by_cases c50 : (f_X9_draw (f_X9_draw M2).2).1 - (f_X9_draw (f_X9_draw M2).2).1 / 100 * 100 < 50
            · rw [if_pos c50, if_neg (i_ltnle c50)]
              exact ih m (i + 1) n f (s + 1) l _ _ 1 (v3 + 1) _ 0 (v7 + 1) RC2 (by omega) (by omega) (by omega) (by omega) (Or.inr ⟨rfl, rfl⟩) (by omega)
            · have t := i_nlt c50
              rw [if_neg c50, if_pos (Int32.le_iff_toInt_le.mpr t)]
              exact ih m (i + 1) n f (s + 1) l _ _ 0 (v3 + 1) _ 1 (v7 + 1) RC2 (by omega) (by omega) (by omega) (by omega) (Or.inl ⟨rfl, rfl⟩) (by omega)
      rcases i_cases5 hg with z | z | z | z | z
      · subst z
        rw [show f_X4_clickChance (-1) = 20 from by decide, if_neg (show ¬ (0 : Int32) ≤ -1 by decide)]
        exact fin 20
      · subst z
        rw [show f_X4_clickChance 0 = 10 from by decide, if_pos (show (0 : Int32) ≤ 0 by decide), if_pos (show (0 : Int32) = 0 from rfl)]
        exact fin 10
      · subst z
        rw [show f_X4_clickChance 1 = 30 from by decide, if_pos (show (0 : Int32) ≤ 1 by decide), if_neg (show ¬ (1 : Int32) = 0 by decide), show (30 : Int32) * 1 = 30 from by decide]
        exact fin 30
      · subst z
        rw [show f_X4_clickChance 2 = 60 from by decide, if_pos (show (0 : Int32) ≤ 2 by decide), if_neg (show ¬ (2 : Int32) = 0 by decide), show (30 : Int32) * 2 = 60 from by decide]
        exact fin 60
      · subst z
        rw [show f_X4_clickChance 3 = 90 from by decide, if_pos (show (0 : Int32) ≤ 3 by decide), if_neg (show ¬ (3 : Int32) = 0 by decide), show (30 : Int32) * 3 = 90 from by decide]
        exact fin 90
    · subst z2
      subst z6
      rw [if_neg (show ¬ (1 : Int32) = 0 by decide), if_pos (show (0 : Int32) = 0 from rfl)]
      exact ⟨f, s, v5, h, rfl, by omega⟩
