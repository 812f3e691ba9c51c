/-! 84: measure -/
def MV (S : Ab) (r q : Nat) (w : Int32) (k : Nat) : Int × Int :=
  if w = 0 then rd (Gd S r q k : Nat) k else if w = 1 then rd (Gd S r q k : Nat) (Rg S q : Nat) else if w = 2 then rd (AvN S r q k) (720720 * (Rg S q : Nat)) else if w = 3 then rd 1 (Fr1 S r q k : Nat) else if w = 4 then rd (GnN S r q k) 720720 else if w = 5 then rd (GnN S r q k) (BgN S q k) else if w = 6 then PrV S r q k else if w = 7 then rd ((min (S.2.1 r q) k : Nat) - (Jd S r q k : Nat)) 1 else rd (Gd S r q k : Nat) (Jd S r q k : Nat)
theorem i9 {w : Int32} (h : 0 ≤ w.toInt ∧ w.toInt ≤ 8) : w = 0 ∨ w = 1 ∨ w = 2 ∨ w = 3 ∨ w = 4 ∨ w = 5 ∨ w = 6 ∨ w = 7 ∨ w = 8 := by
  have h2 : w.toInt = 0 ∨ w.toInt = 1 ∨ w.toInt = 2 ∨ w.toInt = 3 ∨ w.toInt = 4 ∨ w.toInt = 5 ∨ w.toInt = 6 ∨ w.toInt = 7 ∨ w.toInt = 8 := by omega
  rcases h2 with z | z | z | z | z | z | z | z | z
  · exact Or.inl (i_ext (by rw [z]; rfl))
  · exact Or.inr (Or.inl (i_ext (by rw [z]; rfl)))
  · exact Or.inr (Or.inr (Or.inl (i_ext (by rw [z]; rfl))))
  · exact Or.inr (Or.inr (Or.inr (Or.inl (i_ext (by rw [z]; rfl)))))
  · exact Or.inr (Or.inr (Or.inr (Or.inr (Or.inl (i_ext (by rw [z]; rfl))))))
  · exact Or.inr (Or.inr (Or.inr (Or.inr (Or.inr (Or.inl (i_ext (by rw [z]; rfl)))))))
  · exact Or.inr (Or.inr (Or.inr (Or.inr (Or.inr (Or.inr (Or.inl (i_ext (by rw [z]; rfl))))))))
  · exact Or.inr (Or.inr (Or.inr (Or.inr (Or.inr (Or.inr (Or.inr (Or.inl (i_ext (by rw [z]; rfl)))))))))
  · exact Or.inr (Or.inr (Or.inr (Or.inr (Or.inr (Or.inr (Or.inr (Or.inr (i_ext (by rw [z]; rfl)))))))))
theorem l_P : (720720 : Int64).toInt = 720720 := rfl
theorem Jd_le (S : Ab) (r q k : Nat) : Jd S r q k ≤ min (S.2.1 r q) k := by
  rw [Jd_cut]
  exact cnt_le _ _
section ME
variable {S : Ab} {M : Mem}
theorem kPut (ho : okA S) (hK : AbK S M) {r q fi : Nat} (hr : r < 4) (hq : q < 8) {w k : Int32} {kk : Nat} (hw : 0 ≤ w.toInt ∧ w.toInt ≤ 8) (hk : k.toInt = kk) (h16 : kk ≤ 16) : isB M (f_X3_put M fi (10 + q) (34 + 4 * q + r) w k) fi (MV S r q w kk) := by
  have eG := kGa ho hK hr hq hk h16
  have eR := kGood hK hq
  have eJ := kJa ho hK hr hq hk h16
  have eF := kFg ho hK hr hq hk h16
  have eA := kAv ho hK hr hq hk h16
  have eN := kGn ho hK hr hq hk h16
  have eB := kBs hK hq hk h16
  have eS := kSize hK hr hq
  have eP := kPr ho hK (fi := fi) hr hq hk h16
  have hA := AvN_bd S r q h16
  have hN := GnN_bd S r q h16
  have hR := Rg_le S q
  have hJ := Jd_le S r q kk
  have h16' := ho.2.1 r q
  unfold f_X3_put MV
  simp only [bnd_eq]
  generalize f_X3_goodAmong M (10 + q) (34 + 4 * q + r) k = xG at *
  generalize f_X6_goodOnes M (10 + q) = xR at *
  generalize f_X3_judgedAmong M (10 + q) (34 + 4 * q + r) k = xJ at *
  generalize f_X3_firstGoodRank M (10 + q) (34 + 4 * q + r) k = xF at *
  generalize f_X3_averageParts M (10 + q) (34 + 4 * q + r) k = xA at *
  generalize f_X3_gainParts M (10 + q) (34 + 4 * q + r) k = xN at *
  generalize f_X3_bestGainParts M (10 + q) k = xB at *
  generalize f_X7_size M (34 + 4 * q + r) = xS at *
  have z1 : (1 : Int64).toInt = 1 := rfl
  obtain ⟨x, ex, hx⟩ : ∃ x : Int32, (if xS < k then xS else k) = x ∧ x.toInt = (min (S.2.1 r q) kk : Nat) := by
    refine ⟨_, rfl, ?_⟩
    by_cases c : xS < k
    · have t := i_lt c
      rw [if_pos c]; omega
    · have t := i_nlt c
      rw [if_neg c]; omega
  rw [ex]
  rcases i9 hw with z | z | z | z | z | z | z | z | z
  · subst z
    rw [if_pos rfl, if_pos rfl]
    exact ⟨xG.toInt64, k.toInt64, rfl, by rw [i2l_ti, eG]; omega, by rw [i2l_ti, i2l_ti, eG, hk]⟩
  · subst z
    rw [if_neg (by decide), if_pos rfl, if_neg (by decide), if_pos rfl]
    exact ⟨xG.toInt64, xR.toInt64, rfl, by rw [i2l_ti, eG]; omega, by rw [i2l_ti, i2l_ti, eG, eR]⟩
  · subst z
    rw [if_neg (by decide), if_neg (by decide), if_pos rfl, if_neg (by decide), if_neg (by decide), if_pos rfl]
    refine ⟨xA, 720720 * xR.toInt64, rfl, by rw [eA]; omega, ?_⟩
    rw [l_mul (by rw [i2l_ti, eR, l_P]; omega) (by rw [i2l_ti, eR, l_P]; omega), i2l_ti, eA, eR, l_P]
  · subst z
    rw [if_neg (by decide), if_neg (by decide), if_neg (by decide), if_pos rfl, if_neg (by decide), if_neg (by decide), if_neg (by decide), if_pos rfl]
    exact ⟨1, xF.toInt64, rfl, by decide, by rw [i2l_ti, eF, z1]⟩
  · subst z
    rw [if_neg (by decide), if_neg (by decide), if_neg (by decide), if_neg (by decide), if_pos rfl, if_neg (by decide), if_neg (by decide), if_neg (by decide), if_neg (by decide), if_pos rfl]
    exact ⟨xN, 720720, rfl, by rw [eN]; omega, by rw [eN, l_P]⟩
  · subst z
    rw [if_neg (by decide), if_neg (by decide), if_neg (by decide), if_neg (by decide), if_neg (by decide), if_pos rfl, if_neg (by decide), if_neg (by decide), if_neg (by decide), if_neg (by decide), if_neg (by decide), if_pos rfl]
    exact ⟨xN, xB, rfl, by rw [eN]; omega, by rw [eN, eB]⟩
  · subst z
    rw [if_neg (by decide), if_neg (by decide), if_neg (by decide), if_neg (by decide), if_neg (by decide), if_neg (by decide), if_pos rfl, if_neg (by decide), if_neg (by decide), if_neg (by decide), if_neg (by decide), if_neg (by decide), if_neg (by decide), if_pos rfl]
    exact eP
  · subst z
    rw [if_neg (by decide), if_neg (by decide), if_neg (by decide), if_neg (by decide), if_neg (by decide), if_neg (by decide), if_neg (by decide), if_pos rfl, if_neg (by decide), if_neg (by decide), if_neg (by decide), if_neg (by decide), if_neg (by decide), if_neg (by decide), if_neg (by decide), if_pos rfl]
    have e3 : ((x - xJ).toInt64).toInt = (min (S.2.1 r q) kk : Nat) - (Jd S r q kk : Nat) := by rw [i2l_ti, i_sub (by omega) (by omega), hx, eJ]
    exact ⟨(x - xJ).toInt64, 1, rfl, by rw [e3]; omega, by rw [e3, z1]⟩
  · subst z
    rw [if_neg (by decide), if_neg (by decide), if_neg (by decide), if_neg (by decide), if_neg (by decide), if_neg (by decide), if_neg (by decide), if_neg (by decide), if_pos rfl, if_neg (by decide), if_neg (by decide), if_neg (by decide), if_neg (by decide), if_neg (by decide), if_neg (by decide), if_neg (by decide), if_neg (by decide)]
    exact ⟨xG.toInt64, xJ.toInt64, rfl, by rw [i2l_ti, eG]; omega, by rw [i2l_ti, i2l_ti, eG, eJ]⟩
theorem isM.mk {M M' : Mem} {a b : Int64} {V : Int × Int} (e : M' = f_X9_make M a b) (h1 : -9223372036854775808 < a.toInt) (h2 : 0 ≤ b.toInt) (h3 : rd a.toInt b.toInt = V) : isM M M' V := by
  rw [e, ← h3]
  exact mkG h1 h2
theorem mRk (ho : okA S) (hM : AbM S M) {r q w k : Int32} (hr : 0 ≤ r.toInt ∧ r.toInt < 4) (hq : 0 ≤ q.toInt ∧ q.toInt < 8) {kk : Nat} (hw : 0 ≤ w.toInt ∧ w.toInt ≤ 8) (hk : k.toInt = kk) (h16 : kk ≤ 16) : isM M (f_X9_reckon M r q w k) (MV S (nn r) (nn q) w kk) := by
  have eG := mGo ho hM hr hq hk
  have eR := mRs ho hM hq
  have eU := mUn ho hM hr hq hk
  have eF := mFirst hM hr hq hk
  have hR := Rg_le S (nn q)
  have hJ := Jd_le S (nn r) (nn q) kk
  have h16' := ho.2.1 (nn r) (nn q)
  have z1 : (1 : Int64).toInt = 1 := rfl
  unfold f_X9_reckon MV
  simp only [bnd_eq]
  rcases i9 hw with z | z | z | z | z | z | z | z | z
  · subst z
    rw [if_pos rfl, if_pos rfl]
    generalize f_X9_goods M r q k = xG at *
    exact isM.mk rfl (by rw [i2l_ti, eG]; omega) (by rw [i2l_ti]; omega) (by rw [i2l_ti, i2l_ti, eG, hk])
  · subst z
    rw [if_neg (by decide), if_pos rfl, if_neg (by decide), if_pos rfl]
    generalize f_X9_goods M r q k = xG at *
    generalize f_X9_rs M q = xR at *
    exact isM.mk rfl (by rw [i2l_ti, eG]; omega) (by rw [i2l_ti]; omega) (by rw [i2l_ti, i2l_ti, eG, eR])
  · subst z
    rw [if_neg (by decide), if_neg (by decide), if_pos rfl, if_neg (by decide), if_neg (by decide), if_pos rfl]
    exact mAv ho hM hr hq hk
  · subst z
    rw [if_neg (by decide), if_neg (by decide), if_neg (by decide), if_pos rfl, if_neg (by decide), if_neg (by decide), if_neg (by decide), if_pos rfl]
    exact mFg ho hM hr hq hk
  · subst z
    rw [if_neg (by decide), if_neg (by decide), if_neg (by decide), if_neg (by decide), if_pos rfl, if_neg (by decide), if_neg (by decide), if_neg (by decide), if_neg (by decide), if_pos rfl]
    exact mGn ho hM hr hq hk
  · subst z
    rw [if_neg (by decide), if_neg (by decide), if_neg (by decide), if_neg (by decide), if_neg (by decide), if_pos rfl, if_neg (by decide), if_neg (by decide), if_neg (by decide), if_neg (by decide), if_neg (by decide), if_pos rfl]
    exact mBs ho hM hr hq hk h16
  · subst z
    rw [if_neg (by decide), if_neg (by decide), if_neg (by decide), if_neg (by decide), if_neg (by decide), if_neg (by decide), if_pos rfl, if_neg (by decide), if_neg (by decide), if_neg (by decide), if_neg (by decide), if_neg (by decide), if_neg (by decide), if_pos rfl]
    exact mPr ho hM hr hq hk
  · subst z
    rw [if_neg (by decide), if_neg (by decide), if_neg (by decide), if_neg (by decide), if_neg (by decide), if_neg (by decide), if_neg (by decide), if_pos rfl, if_neg (by decide), if_neg (by decide), if_neg (by decide), if_neg (by decide), if_neg (by decide), if_neg (by decide), if_neg (by decide), if_pos rfl]
    generalize f_X9_unjudged M r q k = xU at *
    exact isM.mk rfl (by rw [i2l_ti]; omega) (by decide) (by rw [i2l_ti, z1]; congr 1; omega)
  · subst z
    rw [if_neg (by decide), if_neg (by decide), if_neg (by decide), if_neg (by decide), if_neg (by decide), if_neg (by decide), if_neg (by decide), if_neg (by decide), if_neg (by decide), if_neg (by decide), if_neg (by decide), if_neg (by decide), if_neg (by decide), if_neg (by decide), if_neg (by decide), if_neg (by decide)]
    generalize f_X9_goods M r q k = xG at *
    generalize f_X9_unjudged M r q k = xU at *
    generalize f_X9_first M r q k = xF at *
    have e3 : ((xF - xU).toInt64).toInt = (Jd S (nn r) (nn q) kk : Nat) := by rw [i2l_ti, i_sub (by omega) (by omega)]; omega
    exact isM.mk rfl (by rw [i2l_ti, eG]; omega) (by rw [e3]; omega) (by rw [i2l_ti, eG, e3])
end ME
theorem mShow (M : Mem) : (f_X9_show M).1 = M.1 ∧ (f_X9_show M).2 0 4 = M.2 0 6 ∧ (f_X9_show M).2 0 5 = M.2 0 7 := by
  have e : f_X9_show M = ul (ul M 0 4 (M.2 0 6)) 0 5 (M.2 0 7) := by
    unfold f_X9_show
    simp only [bnd_eq]
    have e1 : (ul M 0 4 (M.2 0 6)).2 0 7 = M.2 0 7 := by rw [ul_same]; rfl
    rw [e1]
  rw [e]
  refine ⟨rfl, ?_, ?_⟩
  · rw [ul_same]; unfold vp_updL; rw [if_neg (by decide), ul_same]; rfl
  · rw [ul_same]; rfl
theorem fin_board {S : Ab} {M1 M1' M2 M2' : Mem} {V : Int × Int} (ho : okA S) (hK : AbK S M1) (hM : AbM S M2) (hb : isB M1 M1' 2 V) (hm : isM M2 M2' V) (e : M2'.1 = M2.1) : Rel M1' (f_X9_show M2') := by
  have s := mShow M2'
  have v := hb.val
  refine ⟨S, ho, hK.of1 hb.fr.1, hM.of1 (s.1.trans e), ?_, ?_⟩
  · rw [s.2.1]; exact l_ext (v.1.trans hm.1.symm)
  · rw [s.2.2]; exact l_ext (v.2.trans hm.2.symm)
theorem isDp {k : Int32} : f_X8_isDepth k = if 1 ≤ k.toInt ∧ k.toInt ≤ 16 then 1 else 0 := by
  unfold f_X8_isDepth
  by_cases c : k < 1
  · have t : k.toInt < 1 := i_lt c
    rw [if_pos c, if_neg (by omega)]
  · have t : 1 ≤ k.toInt := i_nlt c
    rw [if_neg c]
    by_cases c2 : (16 : Int32) < k
    · have t2 : 16 < k.toInt := i_lt c2
      rw [if_pos c2, if_neg (by omega)]
    · have t2 : k.toInt ≤ 16 := i_nlt c2
      rw [if_neg c2, if_pos ⟨t, t2⟩]
theorem isDp2 {k : Int32} : f_X9_isDeep k = if 1 ≤ k.toInt ∧ k.toInt ≤ 16 then 1 else 0 := isDp
theorem eq_measure {M1 M2 : Mem} (a b c d : Int32) (h : Rel M1 M2) : (f_X8_measure M1 a b c d).1 = (f_X9_measure M2 a b c d).1 ∧ Rel (f_X8_measure M1 a b c d).2 (f_X9_measure M2 a b c d).2 := by
  obtain ⟨S, ho, hK, hM, hB⟩ := id h
  unfold f_X8_measure f_X9_measure
  simp only [bnd_eq]
  by_cases hin : (0 ≤ a.toInt ∧ a.toInt < 4) ∧ (0 ≤ b.toInt ∧ b.toInt < 8)
  · obtain ⟨hr, hq⟩ := hin
    have hrn : nn a < 4 := nn_lt hr.1 (by omega)
    have hqn : nn b < 8 := nn_lt hq.1 (by omega)
    rw [qO_in hq, oc_some]
    cases ht : S.2.2.1 (nn a) (nn b)
    · rw [rO_f hK hr hq ht, mRow_f hM hr hq ht, oc_none, if_pos rfl]; exact ⟨rfl, h⟩
    · rw [rO_t hK hr hq ht, mRow_t hM hr hq ht, oc_some, if_neg (show ¬ (1 : Int32) = 0 by decide)]
      unfold f_X8_isMeasure
      by_cases c0 : c < 0
      · rw [if_pos c0, if_pos rfl, if_pos c0]; exact ⟨rfl, h⟩
      · rw [if_neg c0, if_neg c0]
        by_cases c8 : (8 : Int32) < c
        · rw [if_pos c8, if_pos rfl, if_pos c8]; exact ⟨rfl, h⟩
        · rw [if_neg c8, if_neg c8, if_neg (show ¬ (1 : Int32) = 0 by decide), isDp, isDp2]
          have t0 : 0 ≤ c.toInt := i_nlt c0
          have t8 : c.toInt ≤ 8 := i_nlt c8
          by_cases hd : 1 ≤ d.toInt ∧ d.toInt ≤ 16
          · rw [if_pos hd, if_neg (show ¬ (1 : Int32) = 0 by decide), if_neg (show ¬ (1 : Int32) = 0 by decide)]
            have hk : d.toInt = (nn d : Nat) := (nn_ti (by omega)).symm
            refine ⟨rfl, ?_⟩
            exact fin_board ho hK hM (kPut ho hK hrn hqn ⟨t0, t8⟩ hk (by omega)) (mRk ho hM hr hq ⟨t0, t8⟩ hk (by omega)) (fr_reckon _ _ _ _ _).1
          · rw [if_neg hd, if_pos rfl, if_pos rfl]; exact ⟨rfl, h⟩
  · rw [rO_out hin, mRow_out hin, if_pos rfl]
    cases f_X8_questionOf b with
    | none => exact ⟨rfl, h⟩
    | some i => exact ⟨rfl, h⟩
