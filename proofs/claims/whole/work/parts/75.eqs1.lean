/-! 75: grade, empty, drop, at, rank, top, bottom on both sides -/
theorem rO_t {S : Ab} {M : Mem} (hK : AbK S M) {r q : Int32} (hr : 0 ≤ r.toInt ∧ r.toInt < 4) (hq : 0 ≤ q.toInt ∧ q.toInt < 8) (ht : S.2.2.1 (nn r) (nn q) = true) : f_X8_rowOf M r q = some (34 + 4 * nn q + nn r) := by rw [rO_in hK hr hq, ht]; rfl
theorem rO_f {S : Ab} {M : Mem} (hK : AbK S M) {r q : Int32} (hr : 0 ≤ r.toInt ∧ r.toInt < 4) (hq : 0 ≤ q.toInt ∧ q.toInt < 8) (ht : S.2.2.1 (nn r) (nn q) = false) : f_X8_rowOf M r q = none := by rw [rO_in hK hr hq, ht]; rfl
theorem mRow_t {S : Ab} {M : Mem} (hM : AbM S M) {r q : Int32} (hr : 0 ≤ r.toInt ∧ r.toInt < 4) (hq : 0 ≤ q.toInt ∧ q.toInt < 8) (ht : S.2.2.1 (nn r) (nn q) = true) : f_X9_isRow M r q = 1 := by rw [mRow_in hM hr hq, ht]; rfl
theorem mRow_f {S : Ab} {M : Mem} (hM : AbM S M) {r q : Int32} (hr : 0 ≤ r.toInt ∧ r.toInt < 4) (hq : 0 ≤ q.toInt ∧ q.toInt < 8) (ht : S.2.2.1 (nn r) (nn q) = false) : f_X9_isRow M r q = 0 := by rw [mRow_in hM hr hq, ht]; rfl
theorem vn0 : vp_nar .boolean 0 = 0 := rfl
theorem vn1 : vp_nar .boolean 1 = 1 := rfl
theorem ui_at {M : Mem} {i k : Nat} {v : Int32} : (ui M i k v).1 i k = v := by rw [ui_same, pk_us]
theorem ui_at_ne {M : Mem} {i k j : Nat} {v : Int32} (h : j ≠ k) : (ui M i k v).1 i j = M.1 i j := by rw [ui_same, pk_un h]
theorem eq_grade {M1 M2 : Mem} (a b c : Int32) (h : Rel M1 M2) : (f_X8_grade M1 a b c).1 = (f_X9_grade M2 a b c).1 ∧ Rel (f_X8_grade M1 a b c).2 (f_X9_grade M2 a b c).2 := by
  obtain ⟨S, ho, hK, hM, hB⟩ := id h
  unfold f_X8_grade f_X9_grade
  by_cases hq : 0 ≤ a.toInt ∧ a.toInt < 8
  · rw [qO_in hq, oc_some]
    simp only [bnd_eq]
    rw [mQ, if_pos hq, if_neg (show ¬ (1 : Int32) = 0 by decide)]
    unfold f_X8_isDocument
    by_cases c1 : b < 0
    · rw [if_pos c1, if_pos rfl, if_pos c1]; exact ⟨rfl, h⟩
    · rw [if_neg c1, if_neg c1]
      have t1 : 0 ≤ b.toInt := i_nlt c1
      by_cases c2 : (24 : Int32) ≤ b
      · have t2 : 24 ≤ b.toInt := i_le c2
        rw [if_pos c2, if_pos rfl, if_neg (fun z => by have t : b.toInt ≤ 23 := i_le z; omega)]; exact ⟨rfl, h⟩
      · have t2 : b.toInt < 24 := i_nle c2
        rw [if_neg c2, if_neg (show ¬ (1 : Int32) = 0 by decide), if_pos (show b ≤ 23 from Int32.le_iff_toInt_le.mpr (by show b.toInt ≤ 23; omega))]
        by_cases c3 : c < -1
        · rw [if_pos c3, if_pos c3]; exact ⟨rfl, h⟩
        · rw [if_neg c3, if_neg c3]
          have t3 : -1 ≤ c.toInt := i_nlt c3
          by_cases c4 : c ≤ 3
          · have t4 : c.toInt ≤ 3 := i_le c4
            rw [if_pos c4, if_pos c4]
            have hqn : nn a < 8 := nn_lt hq.1 (by omega)
            have hdn : nn b < 24 := nn_lt t1 (by omega)
            have e1 := kGrade hK hqn (d := b) ⟨t1, t2⟩
            have e2 := mGrade ho hM hq (d := b) ⟨t1, t2⟩
            refine ⟨?_, upG S (nn a) (nn b) c.toInt, ?_, ?_, ?_, ?_⟩
            · show f_X6_gradeOf M1 (10 + nn a) b + 10 = f_X9_gradeOf M2 a b + 10
              rw [i_ext (e1.trans e2.symm)]
            · refine ⟨fun q d => ?_, ho.2⟩
              show -1 ≤ (if q = nn a ∧ d = nn b then c.toInt else S.1 q d) ∧ (if q = nn a ∧ d = nn b then c.toInt else S.1 q d) ≤ 3
              split
              · exact ⟨t3, t4⟩
              · exact ho.1 q d
            · have ej : f_X6_judge M1 (10 + nn a) b c = ui M1 (18 + nn a) (nn b) c := by
                unfold f_X6_judge
                rw [if_neg c1, if_neg c2, bnd_eq, show 10 + nn a + 8 = 18 + nn a by omega]
              show AbK _ (f_X6_judge M1 (10 + nn a) b c)
              rw [ej]
              refine ⟨?_, ?_, ?_, ?_⟩
              · intro q d hq' hd'
                show ((ui M1 (18 + nn a) (nn b) c).1 (18 + q) d).toInt = if q = nn a ∧ d = nn b then c.toInt else S.1 q d
                by_cases e : q = nn a
                · subst e
                  by_cases e5 : d = nn b
                  · subst e5
                    rw [ui_at, if_pos ⟨rfl, rfl⟩]
                  · rw [ui_at_ne e5, if_neg (fun z => e5 z.2)]; exact hK.1 _ _ hq' hd'
                · rw [ui_ne (by omega), if_neg (fun z => e z.1)]; exact hK.1 _ _ hq' hd'
              · intro r q hr' hq'; rw [ui_ne (by omega)]; exact hK.2.1 r q hr' hq'
              · intro r q hr' hq'; rw [ui_ne (by omega)]; exact hK.2.2.1 r q hr' hq'
              · intro r q i hr' hq' hi; rw [ui_ne (by omega)]; exact hK.2.2.2 r q i hr' hq' hi
            · have e6 : (24 * a + b).toNatClampNeg = 24 * nn a + nn b := ixN24 hq ⟨t1, t2⟩
              show AbM _ (ui M2 1 (24 * a + b).toNatClampNeg (c + 1))
              rw [e6]
              refine ⟨?_, ?_, ?_, ?_⟩
              · intro q d hq' hd'
                show ((ui M2 1 (24 * nn a + nn b) (c + 1)).1 1 (24 * q + d)).toInt = (if q = nn a ∧ d = nn b then c.toInt else S.1 q d) + 1
                by_cases e : q = nn a ∧ d = nn b
                · rw [if_pos e, e.1, e.2, ui_at]
                  have := inc_sp c
                  omega
                · rw [if_neg e, ui_at_ne (fun z => e (by omega))]; exact hM.1 _ _ hq' hd'
              · intro r q hr' hq'; rw [ui_ne (by decide)]; exact hM.2.1 r q hr' hq'
              · intro r q hr' hq'; rw [ui_ne (by decide)]; exact hM.2.2.1 r q hr' hq'
              · intro r q i hr' hq' hi; rw [ui_ne (by decide)]; exact hM.2.2.2 r q i hr' hq' hi
            · have ej : (f_X6_judge M1 (10 + nn a) b c).2 = M1.2 := by
                unfold f_X6_judge
                rw [if_neg c1, if_neg c2, bnd_eq]; rfl
              show Bd (f_X6_judge M1 (10 + nn a) b c) _
              exact ⟨by rw [ej]; exact hB.1, by rw [ej]; exact hB.2⟩
          · rw [if_neg c4, if_neg c4]; exact ⟨rfl, h⟩
  · rw [qO_out hq, oc_none]
    simp only [bnd_eq]
    rw [mQ, if_neg hq, if_pos rfl]
    exact ⟨rfl, h⟩
theorem eq_at {M1 M2 : Mem} (a b c : Int32) (h : Rel M1 M2) : f_X8_at M1 a b c = f_X9_at M2 a b c := by
  obtain ⟨S, ho, hK, hM, hB⟩ := id h
  unfold f_X8_at f_X9_at
  simp only [bnd_eq]
  by_cases hin : (0 ≤ a.toInt ∧ a.toInt < 4) ∧ (0 ≤ b.toInt ∧ b.toInt < 8)
  · obtain ⟨hr, hq⟩ := hin
    have hrn : nn a < 4 := nn_lt hr.1 (by omega)
    have hqn : nn b < 8 := nn_lt hq.1 (by omega)
    cases ht : S.2.2.1 (nn a) (nn b)
    · rw [rO_f hK hr hq ht, mRow_f hM hr hq ht]; rfl
    · rw [rO_t hK hr hq ht, mRow_t hM hr hq ht]
      show (if f_X7_documentAt M1 (34 + 4 * nn b + nn a) c = -1 then -2 else f_X7_documentAt M1 (34 + 4 * nn b + nn a) c) = _
      rw [if_neg (show ¬ (1 : Int32) = 0 by decide)]
      have es := mSize hM hr hq
      by_cases c1 : c < 1
      · have t1 : c.toInt < 1 := i_lt c1
        rw [kDoc_out ho hK hrn hqn (by omega), if_pos rfl, if_pos c1]
      · have t1 : 1 ≤ c.toInt := i_nlt c1
        rw [if_neg c1]
        by_cases c2 : c ≤ f_X9_size M2 a b
        · have t2 := i_le c2
          rw [if_pos c2]
          have h16 := ho.2.1 (nn a) (nn b)
          have e1 := kDoc ho hK hrn hqn t1 (by omega)
          have qd := dec_sp c
          have e2 := mDoc ho hM hr hq (i := c - 1) (by omega) (by omega)
          have e3 : nn (c - 1) = (c.toInt - 1).toNat := by
            have := nn_ti (a := c - 1) (by omega)
            omega
          rw [e3] at e2
          rw [if_neg (fun z => by rw [z] at e1; have : (-1 : Int32).toInt = -1 := rfl; omega)]
          exact i_ext (e1.trans e2.symm)
        · have t2 := i_nle c2
          rw [if_neg c2, kDoc_out ho hK hrn hqn (by omega), if_pos rfl]
  · rw [rO_out hin, mRow_out hin]; rfl
theorem eq_top {M1 M2 : Mem} (h : Rel M1 M2) : f_X8_top M1 = f_X9_top M2 := by
  obtain ⟨S, ho, hK, hM, hB⟩ := h
  exact hB.1
theorem eq_bottom {M1 M2 : Mem} (h : Rel M1 M2) : f_X8_bottom M1 = f_X9_bottom M2 := by
  obtain ⟨S, ho, hK, hM, hB⟩ := h
  exact hB.2

theorem Bd.same {M1 M1' M2 M2' : Mem} (h : Bd M1 M2) (h1 : M1'.2 = M1.2) (h2 : M2'.2 = M2.2) : Bd M1' M2' := ⟨by rw [h1, h2]; exact h.1, by rw [h1, h2]; exact h.2⟩
/-- a row is cleared -/
theorem clr {S : Ab} {M1 M2 M2' : Mem} {r q : Nat} (t' : Bool) (v : Int32) (hv : v = if t' then 1 else 0) (ho : okA S) (hK : AbK S M1) (hM : AbM S M2) (hB : Bd M1 M2) (hr : r < 4) (hq : q < 8) (g1 : M2'.1 1 = M2.1 1) (g2 : M2'.1 2 = M2.1 2) (o3 : ∀ j, j ≠ 8 * r + q → M2'.1 3 j = M2.1 3 j) (o4 : ∀ j, j ≠ 8 * r + q → M2'.1 4 j = M2.1 4 j) (h1 : M2'.1 3 (8 * r + q) = 0) (h2 : M2'.1 4 (8 * r + q) = v) (hj : M2'.2 = M2.2) : Rel (f_X7_clear M1 (34 + 4 * q + r) v) M2' := by
  have e : f_X7_clear M1 (34 + 4 * q + r) v = ui (ui M1 (34 + 4 * q + r) 1 0) (34 + 4 * q + r) 2 v := by unfold f_X7_clear; simp only [bnd_eq]
  rw [e]
  refine ⟨upS S r q 0 t' (fun _ => 0), ho.row (by omega) (fun i h => absurd h (by omega)) (fun i j h => absurd h (by omega)) (fun _ => rfl), hK.row hr hq ?_ ?_ ?_ (fun i h => absurd h (by omega)), AbM.row ho hM hr hq g1 o3 o4 (fun j _ => by rw [g2]) ?_ ?_ (fun i h => absurd h (by omega)), hB.same rfl hj⟩
  · intro i h1 h2; rw [ui_ne h1, ui_ne h1]
  · rw [ui_at_ne (by decide), ui_at]; rfl
  · rw [ui_at]; exact hv
  · rw [h1]; rfl
  · rw [h2]; exact hv
theorem eq_drop {M1 M2 : Mem} (a b : Int32) (h : Rel M1 M2) : (f_X8_drop M1 a b).1 = (f_X9_drop M2 a b).1 ∧ Rel (f_X8_drop M1 a b).2 (f_X9_drop M2 a b).2 := by
  obtain ⟨S, ho, hK, hM, hB⟩ := id h
  unfold f_X8_drop f_X9_drop
  simp only [bnd_eq]
  by_cases hin : (0 ≤ a.toInt ∧ a.toInt < 4) ∧ (0 ≤ b.toInt ∧ b.toInt < 8)
  · obtain ⟨hr, hq⟩ := hin
    have hrn : nn a < 4 := nn_lt hr.1 (by omega)
    have hqn : nn b < 8 := nn_lt hq.1 (by omega)
    have e6 : (8 * a + b).toNatClampNeg = 8 * nn a + nn b := ixN8 hr hq
    cases ht : S.2.2.1 (nn a) (nn b)
    · rw [rO_f hK hr hq ht, mRow_f hM hr hq ht]; exact ⟨rfl, h⟩
    · rw [rO_t hK hr hq ht, mRow_t hM hr hq ht, oc_some, if_neg (show ¬ (1 : Int32) = 0 by decide), e6, vn0]
      refine ⟨rfl, clr false 0 rfl ho hK hM hB hrn hqn ?_ ?_ ?_ ?_ ?_ ?_ rfl⟩
      · show (ui (ui M2 4 _ 0) 3 _ 0).1 1 = _; rw [ui_ne (by decide), ui_ne (by decide)]
      · show (ui (ui M2 4 _ 0) 3 _ 0).1 2 = _; rw [ui_ne (by decide), ui_ne (by decide)]
      · intro j hj; show (ui (ui M2 4 _ 0) 3 _ 0).1 3 j = _; rw [ui_at_ne hj, ui_ne (by decide)]
      · intro j hj; show (ui (ui M2 4 _ 0) 3 _ 0).1 4 j = _; rw [ui_ne (by decide), ui_at_ne hj]
      · show (ui (ui M2 4 _ 0) 3 _ 0).1 3 _ = _; rw [ui_at]
      · show (ui (ui M2 4 _ 0) 3 _ 0).1 4 _ = _; rw [ui_ne (by decide), ui_at]
  · rw [rO_out hin, mRow_out hin]; exact ⟨rfl, h⟩
theorem eq_empty {M1 M2 : Mem} (a b : Int32) (h : Rel M1 M2) : (f_X8_empty M1 a b).1 = (f_X9_empty M2 a b).1 ∧ Rel (f_X8_empty M1 a b).2 (f_X9_empty M2 a b).2 := by
  obtain ⟨S, ho, hK, hM, hB⟩ := id h
  unfold f_X8_empty f_X9_empty
  simp only [bnd_eq]
  rw [mR, mQ]
  by_cases hr : 0 ≤ a.toInt ∧ a.toInt < 4
  · rw [if_pos hr, if_neg (show ¬ (1 : Int32) = 0 by decide)]
    by_cases hq : 0 ≤ b.toInt ∧ b.toInt < 8
    · rw [if_pos hq, if_neg (show ¬ (1 : Int32) = 0 by decide), pO_in hr hq, oc_some]
      have hrn : nn a < 4 := nn_lt hr.1 (by omega)
      have hqn : nn b < 8 := nn_lt hq.1 (by omega)
      have e6 : (8 * a + b).toNatClampNeg = 8 * nn a + nn b := ixN8 hr hq
      have e3 := hM.2.2.1 (nn a) (nn b) hrn hqn
      have es := hM.2.1 (nn a) (nn b) hrn hqn
      have ek := kSize hK hrn hqn
      rw [e6, e3, vn1]
      have R : Rel (f_X7_clear M1 (34 + 4 * nn b + nn a) 1) (ui (ui M2 4 (8 * nn a + nn b) 1) 3 (8 * nn a + nn b) 0) := by
        refine clr true 1 rfl ho hK hM hB hrn hqn ?_ ?_ ?_ ?_ ?_ ?_ rfl
        · rw [ui_ne (by decide), ui_ne (by decide)]
        · rw [ui_ne (by decide), ui_ne (by decide)]
        · intro j hj; rw [ui_at_ne hj, ui_ne (by decide)]
        · intro j hj; rw [ui_ne (by decide), ui_at_ne hj]
        · rw [ui_at]
        · rw [ui_ne (by decide), ui_at]
      cases ht : S.2.2.1 (nn a) (nn b)
      · refine ⟨?_, R⟩
        show f_X7_size M1 (34 + 4 * nn b + nn a) = 0
        have e0 := ho.2.2.2.2 (nn a) (nn b) ht
        exact i_ext (by rw [ek, e0]; rfl)
      · refine ⟨?_, R⟩
        show f_X7_size M1 (34 + 4 * nn b + nn a) = M2.1 3 (8 * nn a + nn b)
        exact i_ext (by rw [ek, es])
    · rw [if_neg hq, if_pos rfl, pO_out (fun z => hq z.2)]; exact ⟨rfl, h⟩
  · rw [if_neg hr, if_pos rfl, pO_out (fun z => hr z.1)]; exact ⟨rfl, h⟩
