/-! 87b: the differences of two rankers, on both sides -/
theorem AbK.of5 {S : Ab} {M M' : Mem} (h : AbK S M) (e : ∀ i, i ≠ 5 → M'.1 i = M.1 i) : AbK S M' := by
  obtain ⟨a1, a2, a3, a4⟩ := h
  refine ⟨?_, ?_, ?_, ?_⟩
  · intro q d hq hd; rw [e _ (by omega)]; exact a1 q d hq hd
  · intro r q hr hq; rw [e _ (by omega)]; exact a2 r q hr hq
  · intro r q hr hq; rw [e _ (by omega)]; exact a3 r q hr hq
  · intro r q i hr hq hi; rw [e _ (by omega)]; exact a4 r q i hr hq hi
theorem ad_fr (M : Mem) (s : Int64) : (f_X1_add M 4 3 s).1 = M.1 ∧ ∀ j, j ≠ 4 → (f_X1_add M 4 3 s).2 j = M.2 j := by
  unfold f_X1_add
  simp only [bnd_eq]
  split
  · exact ⟨rfl, fun _ _ => rfl⟩
  · split
    · exact bc_fr _ _ _ _
    · exact ⟨rfl, fun _ _ => rfl⟩
theorem diffs2 {S : Ab} (ho : okA S) {r1 r2 w k : Int32} (hr1 : 0 ≤ r1.toInt ∧ r1.toInt < 4) (hr2 : 0 ≤ r2.toInt ∧ r2.toInt < 4) (hw : 0 ≤ w.toInt ∧ w.toInt ≤ 8) (h4 : w ≠ 4) (h5 : w ≠ 5) {kk : Nat} (hk : k.toInt = kk) (hk0 : 1 ≤ kk) (h16 : kk ≤ 16) : ∀ (j n s : Nat) (M1 M2 : Mem) (c v : Int32) (d : Nat → Int), AbK S M1 → AbM S M2 → Bd M1 M2 → v.toInt + j = 8 → c.toInt = s → s + j ≤ 8 → DK d s M1 → DM d s M2 → DB d s → j < n →
    ∃ s' d' M1' M2' c', f_X8_meet_52 n M1 r1 r2 w k v = (if c' = 0 then ((-3), M1') else (c', M1')) ∧ f_X9_differences_6 n M2 r1 r2 w k c v = (c', M2') ∧ AbK S M1' ∧ AbM S M2' ∧ Bd M1' M2' ∧ c'.toInt = (s' : Nat) ∧ s' ≤ 8 ∧ DK d' s' M1' ∧ DM d' s' M2' ∧ DB d' s' := by
  intro j
  induction j with
  | zero =>
    intro n s M1 M2 c v d hK hM hB hv hc hs dk dm db hn
    obtain ⟨n, rfl⟩ : ∃ x, n = x + 1 := ⟨n - 1, by omega⟩
    have hsz : f_X0_size M1 = c := i_ext (by rw [hc]; exact dk.1)
    refine ⟨s, d, M1, M2, c, ?_, ?_, hK, hM, hB, hc, by omega, dk, dm, db⟩
    · rw [f_X8_meet_52, if_pos (show (8 : Int32) ≤ v from Int32.le_iff_toInt_le.mpr (by show (8 : Int) ≤ v.toInt; omega))]
      simp only [bnd_eq]
      rw [hsz]
    · rw [f_X9_differences_6, if_pos (show (8 : Int32) ≤ v from Int32.le_iff_toInt_le.mpr (by show (8 : Int) ≤ v.toInt; omega))]
  | succ j ih =>
    intro n s M1 M2 c v d hK hM hB hv hc hs dk dm db hn
    obtain ⟨n, rfl⟩ : ∃ x, n = x + 1 := ⟨n - 1, by omega⟩
    have hq : 0 ≤ v.toInt ∧ v.toInt < 8 := ⟨by omega, by omega⟩
    have hrn1 : nn r1 < 4 := nn_lt hr1.1 (by omega)
    have hrn2 : nn r2 < 4 := nn_lt hr2.1 (by omega)
    have hqn : nn v < 8 := nn_lt hq.1 (by omega)
    have qv := inc_sp v
    have qc := inc_sp c
    rw [f_X8_meet_52, if_neg (show ¬ (8 : Int32) ≤ v from fun z => by have y : 8 ≤ v.toInt := i_le z; omega), f_X9_differences_6, if_neg (show ¬ (8 : Int32) ≤ v from fun z => by have y : 8 ≤ v.toInt := i_le z; omega)]
    simp only [bnd_eq]
    rw [qO_in hq, oc_some, cR_b hK hr1 hq, cR_b hK hr2 hq, mCb ho hM hr1 hq, mCb ho hM hr2 hq]
    cases hb1 : Ctb S (nn r1) (nn v)
    · rw [if_neg (show ¬ false = true by decide), oc_none, if_pos (show (if false = true then (1 : Int32) else 0) = 0 from rfl)]
      have T := ih n s M1 M2 c (v + 1) d hK hM hB (by omega) hc (by omega) dk dm db (by omega)
      cases Ctb S (nn r2) (nn v)
      · exact T
      · exact T
    · rw [if_pos (show true = true from rfl), oc_some, if_neg (show ¬ (if true = true then (1 : Int32) else 0) = 0 by decide)]
      cases hb2 : Ctb S (nn r2) (nn v)
      · rw [if_neg (show ¬ false = true by decide), oc_none, if_pos (show (if false = true then (1 : Int32) else 0) = 0 from rfl)]
        exact ih n s M1 M2 c (v + 1) d hK hM hB (by omega) hc (by omega) dk dm db (by omega)
      · rw [if_pos (show true = true from rfl), oc_some, if_neg (show ¬ (if true = true then (1 : Int32) else 0) = 0 by decide)]
        have hR : 1 ≤ Rg S (nn v) := by
          unfold Ctb at hb1
          simp at hb1
          omega
        obtain ⟨N1, eV1, hN1, hN12⟩ := MVL (r := nn r1) hR hk0 h16 hw h4 h5
        obtain ⟨N2, eV2, hN2, hN22⟩ := MVL (r := nn r2) hR hk0 h16 hw h4 h5
        have hL := LL_pos
        have hL2 := LL_lt
        have hLv : 16 * LL + 16 * LL < 9223372036854775808 := by decide
        -- the bench
        have B1 := kPut ho hK (fi := 4) hrn1 hqn hw hk h16
        rw [eV1] at B1
        have b1 := B1.val
        have b1f := B1.fr
        generalize f_X3_put M1 4 (10 + nn v) (34 + 4 * nn v + nn r1) w k = M40 at *
        have hK40 : AbK S M40 := hK.of1 b1f.1
        have B2 := kPut ho hK40 (fi := 3) hrn2 hqn hw hk h16
        rw [eV2] at B2
        have b2 := B2.val
        have b2f := B2.fr
        generalize f_X3_put M40 3 (10 + nn v) (34 + 4 * nn v + nn r2) w k = M41 at *
        have A := adG (M := M41) (i := 4) (j := 3) (s := -1) (N := N1) (N1 := N2) (L := LL) (by decide) hL hL2 (Or.inr rfl) (by rw [b2f.2 4 (by decide)]; exact b1.1) (by rw [b2f.2 4 (by decide)]; exact b1.2) b2.1 b2.2 (by omega)
        have e1 : N1 + (-1 : Int64).toInt * N2 = N1 - N2 := by rw [show (-1 : Int64).toInt = -1 from rfl]; omega
        rw [e1] at A
        have af := ad_fr M41 (-1)
        generalize f_X1_add M41 4 3 (-1) = M42 at *
        have m42 : M42.1 = M1.1 := af.1.trans (b2f.1.trans b1f.1)
        have l42 : ∀ i, i ≠ 3 → i ≠ 4 → M42.2 i = M1.2 i := fun i h3 h4 => (af.2 i h4).trans ((b2f.2 i h3).trans (b1f.2 i h4))
        have dk42 : DK d s M42 := by
          refine ⟨by rw [m42]; exact dk.1, by rw [l42 5 (by decide) (by decide)]; exact dk.2.1, ?_⟩
          intro i hi
          rw [l42 6 (by decide) (by decide)]; exact dk.2.2 i hi
        have Ap := kAp (x := N1 - N2) (by omega) db ⟨by omega, by omega⟩ dk42 A.1 A.2
        generalize f_X0_append M42 4 = M43 at *
        -- the model
        have R1 := mRk ho hM hr2 hq hw hk h16
        rw [eV2] at R1
        have f1 := fr_reckon M2 r2 v w k
        generalize f_X9_reckon M2 r2 v w k = M14 at *
        have hM14 : AbM S M14 := hM.of1 f1.1
        have R2 := mRk ho hM14 hr1 hq hw hk h16
        rw [eV1] at R2
        have f2 := fr_reckon M14 r1 v w k
        generalize f_X9_reckon M14 r1 v w k = M17 at *
        have hb0 : 0 < (M14.2 0 7).toInt := by rw [R1.2]; exact rd_2pos N2 hL
        have hbd2 : (M14.2 0 7).toInt ∣ LL := by rw [R1.2]; exact rd_2dvd N2 hL
        have hx : (M14.2 0 6).toInt * LL = N2 * (M14.2 0 7).toInt := by rw [R1.1, R1.2]; exact rd_cross N2 hL
        have ha := rd_1abs N2 hL
        rw [← R1.1] at ha
        have eng : (-(M14.2 0 6)).toInt = -(M14.2 0 6).toInt := l_neg (by omega)
        have eN : -(M14.2 0 6).toInt * (LL / (M14.2 0 7).toInt) = -N2 := by
          obtain ⟨x, hx2⟩ := hbd2
          have e1 : LL / (M14.2 0 7).toInt = x := by
            conv => lhs; lhs; rw [hx2]
            exact Int.mul_ediv_cancel_left _ (by omega)
          rw [e1]
          have e2 : (M14.2 0 6).toInt * x * (M14.2 0 7).toInt = N2 * (M14.2 0 7).toInt := by
            rw [← hx]
            conv => rhs; rw [hx2]
            simp only [Int.mul_comm, Int.mul_left_comm, Int.mul_assoc]
          have e3 : (M14.2 0 6).toInt * x = N2 := Int.eq_of_mul_eq_mul_right (by omega) e2
          rw [Int.neg_mul, e3]
        have Pl := plG (M := M17) (a := -(M14.2 0 6)) (c := M14.2 0 7) (N := N1) (L := LL) hL hL2 R2.1 R2.2 hb0 hbd2 (by rw [eng, ← Int.natAbs_mul, eN]; omega)
        rw [eng, eN, show N1 + -N2 = N1 - N2 by omega] at Pl
        have f3 := fr_plus M17 (-(M14.2 0 6)) (M14.2 0 7)
        generalize f_X9_plus M17 (-(M14.2 0 6)) (M14.2 0 7) = M18 at *
        have f := f1.tr (f2.tr f3)
        have ec : c.toNatClampNeg = s := by have := clampI (x := c) (by omega); omega
        rw [ec]
        have e7 : (ul M18 5 s (M18.2 0 6)).2 0 7 = M18.2 0 7 := by rw [ul_ne (by decide)]
        rw [e7]
        have dm2 : DM (fun i => if i = s then N1 - N2 else d i) (s + 1) (ul (ul M18 5 s (M18.2 0 6)) 6 s (M18.2 0 7)) := by
          intro i hi
          show ((ul (ul M18 5 s (M18.2 0 6)) 6 s (M18.2 0 7)).2 5 i).toInt = tt (if i = s then N1 - N2 else d i) ∧ ((ul (ul M18 5 s (M18.2 0 6)) 6 s (M18.2 0 7)).2 6 i).toInt = bb (if i = s then N1 - N2 else d i)
          by_cases z : i = s
          · subst z
            rw [if_pos rfl, ul_ne (by decide), ul_at, ul_at]
            exact Pl
          · rw [if_neg z, ul_ne (by decide), ul_at_ne z, ul_at_ne z, ul_ne (by decide), f.2.1 5 (by decide), f.2.1 6 (by decide)]
            exact dm i (by omega)
        have db2 : DB (fun i => if i = s then N1 - N2 else d i) (s + 1) := by
          intro i hi
          show -(16 * LL) ≤ (if i = s then N1 - N2 else d i) ∧ (if i = s then N1 - N2 else d i) ≤ 16 * LL
          by_cases z : i = s
          · rw [if_pos z]; omega
          · rw [if_neg z]; exact db i (by omega)
        refine ih n (s + 1) M43 _ (c + 1) (v + 1) (fun i => if i = s then N1 - N2 else d i) (hK.of5 (fun i hi => by rw [Ap.2.1 i hi, m42])) (hM.of1 f.1) ?_ (by omega) (by omega) (by omega) Ap.1 dm2 db2 (by omega)
        have g4 : M43.2 2 = M1.2 2 := (Ap.2.2 2 (by decide) (by decide)).trans (l42 2 (by decide) (by decide))
        refine ⟨?_, ?_⟩
        · rw [g4, ul_ne (by decide), ul_ne (by decide), f.2.2 4 (by decide) (by decide)]; exact hB.1
        · rw [g4, ul_ne (by decide), ul_ne (by decide), f.2.2 5 (by decide) (by decide)]; exact hB.2
