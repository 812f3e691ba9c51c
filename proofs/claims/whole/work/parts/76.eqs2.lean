/-! 76: rank, count -/
/-- what the model does when a document comes behind a row -/
def adM (M : Mem) (x v c : Int32) : Int32 × Mem :=
  ((ui (ui (ui (ui M 3 x.toNatClampNeg v) 4 x.toNatClampNeg (vp_nar .boolean 1)) 2 ((16 * x) + ((ui (ui M 3 x.toNatClampNeg v) 4 x.toNatClampNeg (vp_nar .boolean 1)).1 3 x.toNatClampNeg)).toNatClampNeg c) 3 x.toNatClampNeg (((ui (ui (ui M 3 x.toNatClampNeg v) 4 x.toNatClampNeg (vp_nar .boolean 1)) 2 ((16 * x) + ((ui (ui M 3 x.toNatClampNeg v) 4 x.toNatClampNeg (vp_nar .boolean 1)).1 3 x.toNatClampNeg)).toNatClampNeg c).1 3 x.toNatClampNeg) + 1)).1 3 x.toNatClampNeg,
   ui (ui (ui (ui M 3 x.toNatClampNeg v) 4 x.toNatClampNeg (vp_nar .boolean 1)) 2 ((16 * x) + ((ui (ui M 3 x.toNatClampNeg v) 4 x.toNatClampNeg (vp_nar .boolean 1)).1 3 x.toNatClampNeg)).toNatClampNeg c) 3 x.toNatClampNeg (((ui (ui (ui M 3 x.toNatClampNeg v) 4 x.toNatClampNeg (vp_nar .boolean 1)) 2 ((16 * x) + ((ui (ui M 3 x.toNatClampNeg v) 4 x.toNatClampNeg (vp_nar .boolean 1)).1 3 x.toNatClampNeg)).toNatClampNeg c).1 3 x.toNatClampNeg) + 1))
theorem adM_eq (M : Mem) {r q v c : Int32} (hr : 0 ≤ r.toInt ∧ r.toInt < 4) (hq : 0 ≤ q.toInt ∧ q.toInt < 8) (hv : 0 ≤ v.toInt ∧ v.toInt < 16) : adM M (8 * r + q) v c = (v + 1, ui (ui (ui (ui M 3 (8 * nn r + nn q) v) 4 (8 * nn r + nn q) 1) 2 (16 * (8 * nn r + nn q) + nn v) c) 3 (8 * nn r + nn q) (v + 1)) := by
  have e6 : (8 * r + q).toNatClampNeg = 8 * nn r + nn q := ixN8 hr hq
  unfold adM
  rw [e6]
  have e1 : (ui (ui M 3 (8 * nn r + nn q) v) 4 (8 * nn r + nn q) (vp_nar .boolean 1)).1 3 (8 * nn r + nn q) = v := by rw [ui_ne (by decide), ui_at]
  have e7 : (16 * (8 * r + q) + v).toNatClampNeg = 16 * (8 * nn r + nn q) + nn v := ixN16 hr hq hv
  rw [e1, e7, vn1]
  have e2 : (ui (ui (ui M 3 (8 * nn r + nn q) v) 4 (8 * nn r + nn q) 1) 2 (16 * (8 * nn r + nn q) + nn v) c).1 3 (8 * nn r + nn q) = v := by rw [ui_ne (by decide), ui_ne (by decide), ui_at]
  rw [e2, ui_at]
theorem app_rel {S : Ab} {M1 M2 : Mem} {r q v c : Int32} (ho : okA S) (hK : AbK S M1) (hM : AbM S M2) (hB : Bd M1 M2) (hr : 0 ≤ r.toInt ∧ r.toInt < 4) (hq : 0 ≤ q.toInt ∧ q.toInt < 8) (hv : v.toInt = S.2.1 (nn r) (nn q)) (h16 : S.2.1 (nn r) (nn q) < 16) (hc : 0 ≤ c.toInt ∧ c.toInt < 24) (hno : ∀ i, i < S.2.1 (nn r) (nn q) → (S.2.2.2 (nn r) (nn q) i : Int) ≠ c.toInt) : f_X7_size (f_X7_append M1 (34 + 4 * nn q + nn r) c) (34 + 4 * nn q + nn r) = v + 1 ∧ Rel (f_X7_append M1 (34 + 4 * nn q + nn r) c) (ui (ui (ui (ui M2 3 (8 * nn r + nn q) v) 4 (8 * nn r + nn q) 1) 2 (16 * (8 * nn r + nn q) + nn v) c) 3 (8 * nn r + nn q) (v + 1)) := by
  have hrn : nn r < 4 := nn_lt hr.1 (by omega)
  have hqn : nn q < 8 := nn_lt hq.1 (by omega)
  have ek := hK.2.1 (nn r) (nn q) hrn hqn
  have ev : M1.1 (34 + 4 * nn q + nn r) 1 = v := i_ext (by rw [ek, hv])
  have env : nn v = S.2.1 (nn r) (nn q) := by have := nn_ti (a := v) (by omega); omega
  have enc := nn_ti hc.1
  have qv := inc_sp v
  have e : f_X7_append M1 (34 + 4 * nn q + nn r) c = ui (ui (ui M1 (66 + 4 * nn q + nn r) (nn v) c) (34 + 4 * nn q + nn r) 1 (v + 1)) (34 + 4 * nn q + nn r) 2 1 := by
    unfold f_X7_append
    simp only [bnd_eq]
    rw [ev, if_neg (fun z => by have t : v.toInt < 0 := i_lt z; omega), if_neg (fun z => by have t : 16 ≤ v.toInt := i_le z; omega)]
    rw [show 34 + 4 * nn q + nn r + 32 = 66 + 4 * nn q + nn r by omega]
    rw [ui_ne (show 34 + 4 * nn q + nn r ≠ 66 + 4 * nn q + nn r by omega), ev]
  rw [e]
  refine ⟨?_, upS S (nn r) (nn q) (S.2.1 (nn r) (nn q) + 1) true (fun i => if i = S.2.1 (nn r) (nn q) then nn c else S.2.2.2 (nn r) (nn q) i), ho.row (by omega) ?_ ?_ (fun z => by cases z), hK.row hrn hqn ?_ ?_ ?_ ?_, AbM.row ho hM hrn hqn ?_ ?_ ?_ ?_ ?_ ?_ ?_, hB.same rfl rfl⟩
  · show (ui (ui (ui M1 _ _ c) _ 1 (v + 1)) _ 2 1).1 _ 1 = v + 1
    rw [ui_at_ne (by decide), ui_at]
  · intro i hi
    show (if i = _ then nn c else _) < 24
    split
    · omega
    · exact ho.2.2.1 _ _ i (by omega)
  · intro i j hi hj
    show (if i = _ then nn c else _) = (if j = _ then nn c else _) → i = j
    intro z
    by_cases e1 : i = S.2.1 (nn r) (nn q)
    · by_cases e2 : j = S.2.1 (nn r) (nn q)
      · omega
      · rw [if_pos e1, if_neg e2] at z
        exact absurd (by rw [← z]; exact enc) (hno j (by omega))
    · by_cases e2 : j = S.2.1 (nn r) (nn q)
      · rw [if_neg e1, if_pos e2] at z
        exact absurd (by rw [z]; exact enc) (hno i (by omega))
      · rw [if_neg e1, if_neg e2] at z
        exact ho.2.2.2.1 _ _ i j (by omega) (by omega) z
  · intro i h1 h2; rw [ui_ne h1, ui_ne h1, ui_ne h2]
  · rw [ui_at_ne (by decide), ui_at]; omega
  · rw [ui_at]; rfl
  · intro i hi
    rw [ui_ne (by omega), ui_ne (by omega)]
    show ((ui M1 (66 + 4 * nn q + nn r) (nn v) c).1 (66 + 4 * nn q + nn r) i).toInt = ((if i = _ then nn c else _ : Nat) : Int)
    by_cases e1 : i = S.2.1 (nn r) (nn q)
    · rw [if_pos e1, e1, ← env, ui_at, enc]
    · rw [if_neg e1, ui_at_ne (by omega)]
      exact hK.2.2.2 _ _ i hrn hqn (by omega)
  · rw [ui_ne (by decide), ui_ne (by decide), ui_ne (by decide), ui_ne (by decide)]
  · intro j hj; rw [ui_at_ne hj, ui_ne (by decide), ui_ne (by decide), ui_at_ne hj]
  · intro j hj; rw [ui_ne (by decide), ui_ne (by decide), ui_at_ne hj, ui_ne (by decide)]
  · intro j hj; rw [ui_ne (by decide), ui_at_ne (by omega), ui_ne (by decide), ui_ne (by decide)]
  · rw [ui_at]; omega
  · rw [ui_ne (by decide), ui_ne (by decide), ui_at]; rfl
  · intro i hi
    rw [ui_ne (by decide)]
    show ((ui (ui (ui M2 3 _ v) 4 _ 1) 2 (16 * (8 * nn r + nn q) + nn v) c).1 2 (16 * (8 * nn r + nn q) + i)).toInt = ((if i = _ then nn c else _ : Nat) : Int)
    by_cases e1 : i = S.2.1 (nn r) (nn q)
    · rw [if_pos e1, e1, ← env, ui_at, enc]
    · rw [if_neg e1, ui_at_ne (by omega), ui_ne (by decide), ui_ne (by decide)]
      exact hM.2.2.2 _ _ i hrn hqn (by omega)
theorem eq_rank {M1 M2 : Mem} (a b c : Int32) (h : Rel M1 M2) : (f_X8_rank M1 a b c).1 = (f_X9_rank M2 a b c).1 ∧ Rel (f_X8_rank M1 a b c).2 (f_X9_rank M2 a b c).2 := by
  obtain ⟨S, ho, hK, hM, hB⟩ := id h
  unfold f_X8_rank f_X9_rank
  simp only [bnd_eq]
  rw [mR, mQ]
  by_cases hr : 0 ≤ a.toInt ∧ a.toInt < 4
  · rw [if_pos hr, if_neg (show ¬ (1 : Int32) = 0 by decide)]
    by_cases hq : 0 ≤ b.toInt ∧ b.toInt < 8
    · rw [if_pos hq, if_neg (show ¬ (1 : Int32) = 0 by decide), pO_in hr hq, oc_some]
      have hrn : nn a < 4 := nn_lt hr.1 (by omega)
      have hqn : nn b < 8 := nn_lt hq.1 (by omega)
      have e6 : (8 * a + b).toNatClampNeg = 8 * nn a + nn b := ixN8 hr hq
      have e3 := hM.2.2.1 (nn a) (nn b) hrn hqn
      have es := hM.2.1 (nn a) (nn b) hrn hqn
      have ek := kSize hK hrn hqn
      have h16 := ho.2.1 (nn a) (nn b)
      unfold f_X8_isDocument
      by_cases c1 : c < 0
      · rw [if_pos c1, if_pos rfl, if_pos c1]; exact ⟨rfl, h⟩
      · rw [if_neg c1, if_neg c1]
        have t1 : 0 ≤ c.toInt := i_nlt c1
        by_cases c2 : (24 : Int32) ≤ c
        · have t2 : 24 ≤ c.toInt := i_le c2
          rw [if_pos c2, if_pos rfl, if_neg (show ¬ c ≤ 23 from fun z => by have t : c.toInt ≤ 23 := i_le z; omega)]; exact ⟨rfl, h⟩
        · have t2 : c.toInt < 24 := i_nle c2
          rw [if_neg c2, if_neg (show ¬ (1 : Int32) = 0 by decide), if_pos (show c ≤ 23 from Int32.le_iff_toInt_le.mpr (by show c.toInt ≤ 23; omega))]
          have ef := kRank ho hK hrn hqn c
          have em := mFind ho hM hr hq c
          have fl := fnd_le (S.2.2.2 (nn a) (nn b)) c.toInt (S.2.1 (nn a) (nn b)) 0
          -- the model's one way to lay it
          have lay : ∀ v : Int32, v.toInt = S.2.1 (nn a) (nn b) → S.2.1 (nn a) (nn b) < 16 → (∀ i, i < S.2.1 (nn a) (nn b) → (S.2.2.2 (nn a) (nn b) i : Int) ≠ c.toInt) → f_X7_size (f_X7_append M1 (34 + 4 * nn b + nn a) c) (34 + 4 * nn b + nn a) = (adM M2 (8 * a + b) v c).1 ∧ Rel (f_X7_append M1 (34 + 4 * nn b + nn a) c) (adM M2 (8 * a + b) v c).2 := by
            intro v hv hlt hno
            rw [adM_eq M2 hr hq ⟨by omega, by omega⟩]
            exact app_rel ho hK hM hB hr hq hv hlt ⟨t1, t2⟩ hno
          cases ht : S.2.2.1 (nn a) (nn b)
          · have e0 := ho.2.2.2.2 (nn a) (nn b) ht
            have z4 : M2.1 4 (8 * a + b).toNatClampNeg = 0 := by rw [e6, e3, ht]; rfl
            rw [if_pos z4, if_pos z4, if_pos z4]
            rw [if_pos (show f_X7_rankOf M1 (34 + 4 * nn b + nn a) c ≤ 0 from Int32.le_iff_toInt_le.mpr (by rw [ef, if_pos (by omega)]; decide))]
            rw [if_pos (show f_X7_size M1 (34 + 4 * nn b + nn a) < 16 from Int32.lt_iff_toInt_lt.mpr (by rw [ek, e0]; decide))]
            exact lay 0 (by rw [e0]; rfl) (by omega) (fun i hi => absurd hi (by omega))
          · have z4 : ¬ M2.1 4 (8 * a + b).toNatClampNeg = 0 := by rw [e6, e3, ht]; decide
            rw [if_neg z4, if_neg z4, if_neg z4]
            by_cases hf : fnd (S.2.2.2 (nn a) (nn b)) c.toInt 0 (S.2.1 (nn a) (nn b)) = S.2.1 (nn a) (nn b)
            · rw [if_pos (show f_X7_rankOf M1 (34 + 4 * nn b + nn a) c ≤ 0 from Int32.le_iff_toInt_le.mpr (by rw [ef, if_pos hf]; decide))]
              rw [if_pos (show M2.1 3 (8 * a + b).toNatClampNeg ≤ f_X9_find M2 a b c from Int32.le_iff_toInt_le.mpr (by rw [em, hf, e6, es]; omega))]
              by_cases hl : S.2.1 (nn a) (nn b) < 16
              · rw [if_pos (show f_X7_size M1 (34 + 4 * nn b + nn a) < 16 from Int32.lt_iff_toInt_lt.mpr (by rw [ek]; show _ < (16 : Int); omega))]
                rw [if_neg (show ¬ M2.1 3 (8 * a + b).toNatClampNeg = 16 from fun z => by rw [e6] at z; rw [z] at es; have : (16 : Int32).toInt = 16 := rfl; omega)]
                exact lay (M2.1 3 (8 * a + b).toNatClampNeg) (by rw [e6, es]) hl (fun i hi => fnd_no _ _ (S.2.1 (nn a) (nn b)) 0 i (by omega) (by omega))
              · rw [if_neg (show ¬ f_X7_size M1 (34 + 4 * nn b + nn a) < 16 from fun z => by have t := i_lt z; rw [ek] at t; have : (16 : Int32).toInt = 16 := rfl; omega)]
                rw [if_pos (show M2.1 3 (8 * a + b).toNatClampNeg = 16 from i_ext (by rw [e6, es]; show _ = (16 : Int); omega))]
                exact ⟨rfl, h⟩
            · rw [if_neg (show ¬ f_X7_rankOf M1 (34 + 4 * nn b + nn a) c ≤ 0 from fun z => by have t := i_le z; rw [ef, if_neg hf] at t; have : (0 : Int32).toInt = 0 := rfl; omega)]
              rw [if_neg (show ¬ M2.1 3 (8 * a + b).toNatClampNeg ≤ f_X9_find M2 a b c from fun z => by have t := i_le z; rw [em, e6, es] at t; omega)]
              exact ⟨rfl, h⟩
    · rw [if_neg hq, if_pos rfl, pO_out (fun z => hq z.2)]; exact ⟨rfl, h⟩
  · rw [if_neg hr, if_pos rfl, pO_out (fun z => hr z.1)]; exact ⟨rfl, h⟩
