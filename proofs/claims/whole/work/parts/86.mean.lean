/-! 86: mean -/
theorem Bd.same2 {M1 M1' M2 M2' : Mem} (h : Bd M1 M2) (h1 : M1'.2 2 = M1.2 2) (h2 : M2'.2 0 = M2.2 0) : Bd M1' M2' := ⟨by rw [h1, h2]; exact h.1, by rw [h1, h2]; exact h.2⟩
def LL : Int := 3858899838393600
theorem LL_pos : 0 < LL := by decide
theorem LL_lt : LL < 9223372036854775808 := by decide
theorem dvd24 : ∀ i, i < 24 → (i + 1) ∣ 5354228880 := by decide
theorem dvL1 {d : Nat} (h0 : 1 ≤ d) (h : d ≤ 16) {e : Nat} (e0 : 1 ≤ e) (he : e ≤ 24) : ((d : Int) * (e : Int)) ∣ LL := by
  have h1 := Int.ofNat_dvd.mpr (dvdP (d - 1) (by omega))
  have h2 := Int.ofNat_dvd.mpr (dvd24 (e - 1) (by omega))
  rw [show d - 1 + 1 = d by omega] at h1
  rw [show e - 1 + 1 = e by omega] at h2
  exact Int.mul_dvd_mul h1 h2
theorem toL {X D : Int} (hD : 0 < D) (hd : D ∣ LL) (h0 : 0 ≤ X) (h1 : X ≤ 16 * D) : ∃ N, rd X D = rd N LL ∧ 0 ≤ N ∧ N ≤ 16 * LL := by
  obtain ⟨c, hc⟩ := hd
  have hL := LL_pos
  have c0 : 0 < c := by
    rcases Int.lt_or_le 0 c with q | q
    · exact q
    · have := Int.mul_nonpos_of_nonneg_of_nonpos (Int.le_of_lt hD) q
      omega
  refine ⟨X * c, ?_, Int.mul_nonneg h0 (Int.le_of_lt c0), ?_⟩
  · rw [hc, rd_scale c0 hD]
  · have := Int.mul_le_mul_of_nonneg_right h1 (Int.le_of_lt c0)
    rw [hc]
    rw [Int.mul_assoc] at this
    exact this
theorem toL0 {X D : Int} (hD : D ≤ 0) : ∃ N, rd X D = rd N LL ∧ 0 ≤ N ∧ N ≤ 16 * LL := by
  refine ⟨0, ?_, by decide, by decide⟩
  rw [rd_neg hD]
  decide
theorem avw_le (S : Ab) (r q : Nat) {i : Nat} (hi : i < 16) : avw S r q i ≤ 720720 := by
  unfold avw
  have h1 := divP_bd hi
  have h2 : Gd S r q i ≤ i := cnt_le _ i
  split
  · have e : ((i : Int) + 1) * (720720 / ((i : Int) + 1)) = 720720 := Int.mul_ediv_cancel' (dvdPi hi)
    have := Int.mul_le_mul_of_nonneg_right (show (Gd S r q i : Int) + 1 ≤ (i : Int) + 1 by omega) (show 0 ≤ (720720 : Int) / ((i : Int) + 1) by omega)
    omega
  · omega
theorem AvN_le (S : Ab) (r q : Nat) {k : Nat} (hk : k ≤ 16) : AvN S r q k ≤ 16 * 720720 := by
  have h := sm_bd (w := avw S r q) (B := 720720) k (fun i hi => ⟨(avw_bd S r q (by omega)).1, avw_le S r q (by omega)⟩)
  have : (k : Int) * 720720 ≤ 16 * 720720 := Int.mul_le_mul_of_nonneg_right (by omega) (by decide)
  unfold AvN
  omega
theorem PrN_le (S : Ab) (r q m : Nat) {k : Nat} (hk : k ≤ 16) : PrN S r q m k ≤ 16 * ((if m = 0 then 1 else m : Nat) : Int) := by
  have h := sm_bd (w := prw S r q m) (B := ((if m = 0 then 1 else m : Nat) : Int)) k (fun i hi => by
    unfold prw
    by_cases c : 1 ≤ pg S r q i
    · rw [if_pos c]
      by_cases c2 : m = 0
      · rw [if_pos c2, if_pos c2]; omega
      · rw [if_neg c2, if_neg c2]; omega
    · rw [if_neg c]; omega)
  have : (k : Int) * ((if m = 0 then 1 else m : Nat) : Int) ≤ 16 * ((if m = 0 then 1 else m : Nat) : Int) := Int.mul_le_mul_of_nonneg_right (by omega) (by omega)
  unfold PrN
  omega
theorem cnt_disj {P Q : Nat → Bool} (h : ∀ i, P i = true → Q i = false) : ∀ k, cnt P k + cnt Q k ≤ k
  | 0 => Nat.le_refl _
  | k + 1 => by
    have ih := cnt_disj h k
    rw [cnt, cnt]
    cases hp : P k
    · cases hq : Q k <;> simp <;> omega
    · rw [h k hp]; simp; omega
theorem Mm_12 (S : Ab) (q : Nat) : Mm S q ≤ 12 := by
  have h := cnt_disj (P := fun d => decide (S.1 q d = 0)) (Q := fun d => decide (1 ≤ S.1 q d)) (fun i hi => by simp at hi ⊢; omega) 24
  have e1 : Gw S q 0 + Rg S q ≤ 24 := h
  unfold Mm
  omega
theorem Gd_le (S : Ab) (r q k : Nat) : Gd S r q k ≤ k := cnt_le _ k
/-- a measure with a mean, over LL -/
theorem MVL {S : Ab} {r q k : Nat} {w : Int32} (hR : 1 ≤ Rg S q) (hk0 : 1 ≤ k) (hk : k ≤ 16) (hw : 0 ≤ w.toInt ∧ w.toInt ≤ 8) (h4 : w ≠ 4) (h5 : w ≠ 5) : ∃ N, MV S r q w k = rd N LL ∧ 0 ≤ N ∧ N ≤ 16 * LL := by
  have hR2 := Rg_le S q
  have hG := Gd_le S r q k
  have hJ : Jd S r q k ≤ k := cnt_le _ k
  have hF : Fr1 S r q k ≤ k := ff_le _ k
  unfold MV
  rcases i9 hw with z | z | z | z | z | z | z | z | z
  · subst z
    rw [if_pos rfl]
    exact toL (by omega) (by have := dvL1 hk0 hk (e := 1) (by omega) (by omega); simpa using this) (by omega) (by omega)
  · subst z
    rw [if_neg (by decide), if_pos rfl]
    exact toL (by omega) (by have := dvL1 (d := 1) (by omega) (by omega) hR hR2; simpa using this) (by omega) (by omega)
  · subst z
    rw [if_neg (by decide), if_neg (by decide), if_pos rfl]
    have h1 := AvN_bd S r q hk
    have h2 := AvN_le S r q hk
    refine toL (by omega) ?_ h1.1 (by omega)
    have h2 := Int.ofNat_dvd.mpr (dvd24 (Rg S q - 1) (by omega))
    rw [show Rg S q - 1 + 1 = Rg S q by omega] at h2
    exact Int.mul_dvd_mul (Int.dvd_refl 720720) h2
  · subst z
    rw [if_neg (by decide), if_neg (by decide), if_neg (by decide), if_pos rfl]
    by_cases c : Fr1 S r q k = 0
    · rw [c]; exact toL0 (Int.le_refl _)
    · exact toL (by omega) (by have := dvL1 (d := Fr1 S r q k) (by omega) (by omega) (e := 1) (by omega) (by omega); simpa using this) (by omega) (by omega)
  · exact absurd z h4
  · exact absurd z h5
  · subst z
    rw [if_neg (by decide), if_neg (by decide), if_neg (by decide), if_neg (by decide), if_neg (by decide), if_neg (by decide), if_pos rfl]
    unfold PrV
    have hm := Mm_12 S q
    have h1 := (PrN_bd S r q (Mm_le S q) hk).1
    have h2 := PrN_le S r q (Mm S q) hk
    have hz : 1 ≤ (if Mm S q = 0 then 1 else Mm S q) ∧ (if Mm S q = 0 then 1 else Mm S q) ≤ 12 := by split <;> omega
    generalize (if Mm S q = 0 then 1 else Mm S q) = mm at *
    have h3 : (mm : Int) * 1 ≤ mm * (Rg S q : Nat) := Int.mul_le_mul_of_nonneg_left (by omega) (by omega)
    exact toL (Int.mul_pos (by omega) (by omega)) (dvL1 (by omega) (by omega) hR hR2) h1 (by omega)
  · subst z
    rw [if_neg (by decide), if_neg (by decide), if_neg (by decide), if_neg (by decide), if_neg (by decide), if_neg (by decide), if_neg (by decide), if_pos rfl]
    have hj := Jd_le S r q k
    exact toL (by decide) (Int.one_dvd _) (by omega) (by omega)
  · subst z
    rw [if_neg (by decide), if_neg (by decide), if_neg (by decide), if_neg (by decide), if_neg (by decide), if_neg (by decide), if_neg (by decide), if_neg (by decide)]
    by_cases c : Jd S r q k = 0
    · rw [c]; exact toL0 (Int.le_refl _)
    · have hgj : Gd S r q k ≤ Jd S r q k + 16 := by omega
      exact toL (by omega) (by have := dvL1 (d := Jd S r q k) (by omega) (by omega) (e := 1) (by omega) (by omega); simpa using this) (by omega) (by omega)
section MN
variable {S : Ab} {M : Mem}
theorem cR_in (hK : AbK S M) {r q : Int32} (hr : 0 ≤ r.toInt ∧ r.toInt < 4) (hq : 0 ≤ q.toInt ∧ q.toInt < 8) : f_X8_countingRow M r q = if Rg S (nn q) = 0 then none else (if S.2.2.1 (nn r) (nn q) then some (34 + 4 * nn q + nn r) else none) := by
  unfold f_X8_countingRow
  have hqn : nn q < 8 := nn_lt hq.1 (by omega)
  have eg := kGood hK hqn
  rw [qO_in hq, oc_some, bnd_eq]
  by_cases c : Rg S (nn q) = 0
  · rw [if_pos (show f_X6_goodOnes M (10 + nn q) = 0 from i_ext (by rw [eg, c]; rfl)), if_pos c]
  · rw [if_neg (show ¬ f_X6_goodOnes M (10 + nn q) = 0 from fun z => c (by rw [z] at eg; have : (0 : Int32).toInt = 0 := rfl; omega)), if_neg c, rO_in hK hr hq]
    cases S.2.2.1 (nn r) (nn q)
    · rfl
    · rfl
theorem mCt (ho : okA S) (hM : AbM S M) {r q : Int32} (hr : 0 ≤ r.toInt ∧ r.toInt < 4) (hq : 0 ≤ q.toInt ∧ q.toInt < 8) : f_X9_counts M r q = if Rg S (nn q) = 0 then 0 else (if S.2.2.1 (nn r) (nn q) then 1 else 0) := by
  unfold f_X9_counts
  have e := hM.2.2.1 (nn r) (nn q) (nn_lt hr.1 (by omega)) (nn_lt hq.1 (by omega))
  have e2 : (8 * r + q).toNatClampNeg = 8 * nn r + nn q := ixN8 hr hq
  have er := mRs ho hM hq
  rw [e2, e, bnd_eq]
  cases S.2.2.1 (nn r) (nn q)
  · rw [if_pos (show (if false = true then (1 : Int32) else 0) = 0 from rfl)]
    split <;> rfl
  · rw [if_neg (show ¬ (if true = true then (1 : Int32) else 0) = 0 by decide)]
    by_cases c : Rg S (nn q) = 0
    · rw [if_pos c, if_pos (show f_X9_rs M q ≤ 0 from Int32.le_iff_toInt_le.mpr (by rw [er, c]; decide))]
    · rw [if_neg c, if_neg (show ¬ f_X9_rs M q ≤ 0 from fun z => by have t : (f_X9_rs M q).toInt ≤ 0 := i_le z; omega)]
      rfl
end MN
/-- does question j count -/
def Ctb (S : Ab) (r j : Nat) : Bool := decide (Rg S j ≠ 0) && S.2.2.1 r j
theorem cR_b {S : Ab} {M : Mem} (hK : AbK S M) {r q : Int32} (hr : 0 ≤ r.toInt ∧ r.toInt < 4) (hq : 0 ≤ q.toInt ∧ q.toInt < 8) : f_X8_countingRow M r q = if Ctb S (nn r) (nn q) then some (34 + 4 * nn q + nn r) else none := by
  rw [cR_in hK hr hq]
  unfold Ctb
  by_cases c : Rg S (nn q) = 0
  · rw [if_pos c]; simp [c]
  · rw [if_neg c]; simp [c]
theorem mCb {S : Ab} {M : Mem} (ho : okA S) (hM : AbM S M) {r q : Int32} (hr : 0 ≤ r.toInt ∧ r.toInt < 4) (hq : 0 ≤ q.toInt ∧ q.toInt < 8) : f_X9_counts M r q = if Ctb S (nn r) (nn q) then 1 else 0 := by
  rw [mCt ho hM hr hq]
  unfold Ctb
  by_cases c : Rg S (nn q) = 0
  · rw [if_pos c]; simp [c]
  · rw [if_neg c]; simp [c]
/-! both sides add up the same: j questions left -/
theorem sums2 {S : Ab} (ho : okA S) {r w k : Int32} (hr : 0 ≤ r.toInt ∧ r.toInt < 4) (hw : 0 ≤ w.toInt ∧ w.toInt ≤ 8) (h4 : w ≠ 4) (h5 : w ≠ 5) {kk : Nat} (hk : k.toInt = kk) (hk0 : 1 ≤ kk) (h16 : kk ≤ 16) : ∀ (j n m : Nat) (M1 M2 : Mem) (c v : Int32) (t b : Int64) (N : Int), AbK S M1 → AbM S M2 → v.toInt + j = 8 → c.toInt = (8 - j - m : Nat) → m + j ≤ 8 → (M1.2 4 0).toInt = (rd N LL).1 → (M1.2 4 1).toInt = (rd N LL).2 → t.toInt = (rd N LL).1 → b.toInt = (rd N LL).2 → 0 ≤ N → N ≤ (8 - j : Nat) * (16 * LL) → j < n → Bd M1 M2 →
    ∃ M1' M2' c' t' b' N', f_X8_addUp_15 n M1 r w k c v = (c', M1') ∧ f_X9_mean_33 n M2 r w k c t b v = (if c' = 0 then ((-3), M2') else (c', f_X9_show (f_X9_over (f_X9_make M2' t' b') c'.toInt64))) ∧ AbK S M1' ∧ AbM S M2' ∧ 0 ≤ c'.toInt ∧ c'.toInt ≤ 8 ∧ (M1'.2 4 0).toInt = (rd N' LL).1 ∧ (M1'.2 4 1).toInt = (rd N' LL).2 ∧ t'.toInt = (rd N' LL).1 ∧ b'.toInt = (rd N' LL).2 ∧ 0 ≤ N' ∧ N' ≤ 8 * (16 * LL) ∧ Bd M1' M2' := by
  intro j
  induction j with
  | zero =>
    intro n m M1 M2 c v t b N hK hM hv hc hm f0 f1 g0 g1 hN0 hN hn hB
    obtain ⟨n, rfl⟩ : ∃ x, n = x + 1 := ⟨n - 1, by omega⟩
    refine ⟨M1, M2, c, t, b, N, ?_, ?_, hK, hM, by omega, by omega, f0, f1, g0, g1, hN0, by omega, hB⟩
    · rw [f_X8_addUp_15, if_pos (show (8 : Int32) ≤ v from Int32.le_iff_toInt_le.mpr (by show (8 : Int) ≤ v.toInt; omega))]
    · rw [f_X9_mean_33, if_pos (show (8 : Int32) ≤ v from Int32.le_iff_toInt_le.mpr (by show (8 : Int) ≤ v.toInt; omega))]
      simp only [bnd_eq]
  | succ j ih =>
    intro n m M1 M2 c v t b N hK hM hv hc hm f0 f1 g0 g1 hN0 hN hn hB
    obtain ⟨n, rfl⟩ : ∃ x, n = x + 1 := ⟨n - 1, by omega⟩
    have hq : 0 ≤ v.toInt ∧ v.toInt < 8 := ⟨by omega, by omega⟩
    have hrn : nn r < 4 := nn_lt hr.1 (by omega)
    have hqn : nn v < 8 := nn_lt hq.1 (by omega)
    have qv := inc_sp v
    have qc := inc_sp c
    rw [f_X8_addUp_15, if_neg (show ¬ (8 : Int32) ≤ v from fun z => by have y : 8 ≤ v.toInt := i_le z; omega), f_X9_mean_33, if_neg (show ¬ (8 : Int32) ≤ v from fun z => by have y : 8 ≤ v.toInt := i_le z; omega)]
    simp only [bnd_eq]
    rw [qO_in hq, oc_some, cR_b hK hr hq, mCb ho hM hr hq]
    have hL := LL_pos
    have hL2 := LL_lt
    have eb : ((8 - j : Nat) : Int) * (16 * LL) = ((8 - (j + 1) : Nat) : Int) * (16 * LL) + 16 * LL := by
      rw [show 8 - j = (8 - (j + 1)) + 1 by omega]; push_cast; rw [Int.add_mul, Int.one_mul]
    cases hb : Ctb S (nn r) (nn v)
    · rw [if_neg (show ¬ false = true by decide), oc_none, if_pos (show (if false = true then (1 : Int32) else 0) = 0 from rfl)]
      exact ih n (m + 1) M1 M2 c (v + 1) t b N hK hM (by omega) (by rw [hc]; omega) (by omega) f0 f1 g0 g1 hN0 (by rw [eb]; omega) (by omega) hB
    · rw [if_pos (show true = true from rfl), oc_some, if_neg (show ¬ (if true = true then (1 : Int32) else 0) = 0 by decide)]
      have hR : 1 ≤ Rg S (nn v) := by
        unfold Ctb at hb
        simp at hb
        omega
      obtain ⟨N1, eV, hN1, hN2⟩ := MVL (r := nn r) hR hk0 h16 hw h4 h5
      have B1 := kPut ho hK (fi := 3) hrn hqn hw hk h16
      have B2 := mRk ho hM hr hq hw hk h16
      rw [eV] at B1 B2
      have b1 := B1.val
      have b1f := B1.fr
      have fr := fr_reckon M2 r v w k
      generalize f_X3_put M1 3 (10 + nn v) (34 + 4 * nn v + nn r) w k = M11 at *
      generalize f_X9_reckon M2 r v w k = M21 at *
      have hup : ((8 - (j + 1) : Nat) : Int) * (16 * LL) ≤ 8 * (16 * LL) := Int.mul_le_mul_of_nonneg_right (by omega) (by omega)
      have hLv : 8 * (16 * LL) + 16 * LL < 9223372036854775808 := by decide
      have A := adG (M := M11) (i := 4) (j := 3) (s := 1) (N := N) (N1 := N1) (L := LL) (by decide) hL hL2 (Or.inl rfl) (by rw [b1f.2 4 (by decide)]; exact f0) (by rw [b1f.2 4 (by decide)]; exact f1) b1.1 b1.2 (by omega)
      have hb0 : 0 < b.toInt := by rw [g1]; exact rd_2pos N hL
      have hbd2 : b.toInt ∣ LL := by rw [g1]; exact rd_2dvd N hL
      have hx : t.toInt * LL = N * b.toInt := by rw [g0, g1]; exact rd_cross N hL
      have eN : t.toInt * (LL / b.toInt) = N := by
        obtain ⟨x, hx2⟩ := hbd2
        have e1 : LL / b.toInt = x := by rw [hx2]; exact Int.mul_ediv_cancel_left _ (by omega)
        rw [e1]
        have e2 : t.toInt * x * b.toInt = N * b.toInt := by
          rw [← hx, hx2]
          simp only [Int.mul_comm, Int.mul_left_comm, Int.mul_assoc]
        exact Int.eq_of_mul_eq_mul_right (by omega) e2
      have Pl := plG (M := M21) (a := t) (c := b) (N := N1) (L := LL) hL hL2 B2.1 B2.2 hb0 hbd2 (by rw [← Int.natAbs_mul, eN]; omega)
      rw [eN, Int.add_comm N1 N] at Pl
      rw [show (1 : Int64).toInt = 1 from rfl, Int.one_mul] at A
      have a1 : (f_X1_add M11 4 3 1).1 = M1.1 ∧ (f_X1_add M11 4 3 1).2 2 = M1.2 2 := by
        have q1 : (f_X1_add M11 4 3 1).1 = M11.1 ∧ (f_X1_add M11 4 3 1).2 2 = M11.2 2 := by
          unfold f_X1_add
          simp only [bnd_eq]
          split
          · exact ⟨rfl, rfl⟩
          · split
            · exact ⟨(bc_fr _ _ _ _).1, (bc_fr _ _ _ _).2 2 (by decide)⟩
            · exact ⟨rfl, rfl⟩
        exact ⟨q1.1.trans b1f.1, q1.2.trans (b1f.2 2 (by decide))⟩
      have fp := fr.tr (fr_plus M21 t b)
      exact ih n m _ _ (c + 1) (v + 1) _ _ (N + N1) (hK.of1 a1.1) (hM.of1 fp.1) (by omega) (by omega) (by omega) A.1 A.2 Pl.1 Pl.2 (by omega) (by omega) (by omega) ⟨by rw [a1.2, fp.2.2 4 (by decide) (by decide)]; exact hB.1, by rw [a1.2, fp.2.2 5 (by decide) (by decide)]; exact hB.2⟩
theorem isMn {a b : Int32} : f_X9_isMean a b = if (0 ≤ a.toInt ∧ a.toInt ≤ 8) ∧ a ≠ 4 ∧ a ≠ 5 ∧ (1 ≤ b.toInt ∧ b.toInt ≤ 16) then 1 else 0 := by
  unfold f_X9_isMean
  simp only [bnd_eq]
  by_cases c0 : a < 0
  · have t : a.toInt < 0 := i_lt c0
    rw [if_pos c0, if_neg (fun z => absurd z.1.1 (by omega))]
  · have t : 0 ≤ a.toInt := i_nlt c0
    rw [if_neg c0]
    by_cases c8 : (8 : Int32) < a
    · have t8 : 8 < a.toInt := i_lt c8
      rw [if_pos c8, if_neg (fun z => absurd z.1.2 (by omega))]
    · have t8 : a.toInt ≤ 8 := i_nlt c8
      rw [if_neg c8]
      by_cases c4 : a = 4
      · rw [if_pos c4, if_neg (fun z => z.2.1 c4)]
      · rw [if_neg c4]
        by_cases c5 : a = 5
        · rw [if_pos c5, if_neg (fun z => z.2.2.1 c5)]
        · rw [if_neg c5, isDp2]
          by_cases hd : 1 ≤ b.toInt ∧ b.toInt ≤ 16
          · rw [if_pos hd, if_neg (by decide), if_pos ⟨⟨t, t8⟩, c4, c5, hd⟩]
          · rw [if_neg hd, if_pos rfl, if_neg (fun z => hd z.2.2.2)]
theorem hasMn {a : Int32} : f_X8_hasMean a = if (0 ≤ a.toInt ∧ a.toInt ≤ 8) ∧ a ≠ 4 ∧ a ≠ 5 then 1 else 0 := by
  unfold f_X8_hasMean f_X8_isMeasure
  simp only [bnd_eq]
  by_cases c0 : a < 0
  · have t : a.toInt < 0 := i_lt c0
    rw [if_pos c0, if_pos rfl, if_neg (fun z => absurd z.1.1 (by omega))]
  · have t : 0 ≤ a.toInt := i_nlt c0
    rw [if_neg c0]
    by_cases c8 : (8 : Int32) < a
    · have t8 : 8 < a.toInt := i_lt c8
      rw [if_pos c8, if_pos rfl, if_neg (fun z => absurd z.1.2 (by omega))]
    · have t8 : a.toInt ≤ 8 := i_nlt c8
      rw [if_neg c8, if_neg (by decide)]
      by_cases c4 : a = 4
      · rw [if_pos c4, if_neg (fun z => z.2.1 c4)]
      · rw [if_neg c4]
        by_cases c5 : a = 5
        · rw [if_pos c5, if_neg (fun z => z.2.2 c5)]
        · rw [if_neg c5, if_pos ⟨⟨t, t8⟩, c4, c5⟩]
theorem kR {a : Int32} : f_X8_isRanker a = if 0 ≤ a.toInt ∧ a.toInt < 4 then 1 else 0 := mR
theorem eq_mean {M1 M2 : Mem} (a b c : Int32) (h : Rel M1 M2) : (f_X8_mean M1 a b c).1 = (f_X9_mean M2 a b c).1 ∧ Rel (f_X8_mean M1 a b c).2 (f_X9_mean M2 a b c).2 := by
  obtain ⟨S, ho, hK, hM, hB⟩ := id h
  unfold f_X8_mean f_X9_mean
  simp only [bnd_eq]
  rw [kR, mR, hasMn, isDp]
  by_cases hr : 0 ≤ a.toInt ∧ a.toInt < 4
  · rw [if_pos hr, if_neg (show ¬ (1 : Int32) = 0 by decide), if_neg (show ¬ (1 : Int32) = 0 by decide)]
    by_cases hm : (0 ≤ b.toInt ∧ b.toInt ≤ 8) ∧ b ≠ 4 ∧ b ≠ 5
    · rw [if_pos hm, if_neg (show ¬ (1 : Int32) = 0 by decide)]
      by_cases hd : 1 ≤ c.toInt ∧ c.toInt ≤ 16
      · rw [if_pos hd, if_neg (show ¬ (1 : Int32) = 0 by decide), show f_X9_isMean b c = 1 from (by rw [isMn]; exact if_pos ⟨hm.1, hm.2.1, hm.2.2, hd⟩), if_neg (show ¬ (1 : Int32) = 0 by decide)]
        have hk : c.toInt = (nn c : Nat) := (nn_ti (by omega)).symm
        have b0 := bcG (M := M1) (i := 4) (a := 0) (b := 1) (by decide)
        have bf := bc_fr M1 4 0 1
        have z0 : rd (0 : Int64).toInt (1 : Int64).toInt = rd 0 LL := (show rd (0 : Int) 1 = rd 0 LL by decide)
        have z1 : (0 : Int64).toInt = (rd 0 LL).1 := (show (0 : Int) = (rd 0 LL).1 by decide)
        have z2 : (1 : Int64).toInt = (rd 0 LL).2 := (show (1 : Int) = (rd 0 LL).2 by decide)
        rw [z0] at b0
        obtain ⟨M1', M2', c', t', b', N', E1, E2, hK', hM', hc0, hc8, f0, f1, g0, g1, hN0, hN8, hB'⟩ := sums2 ho (r := a) (w := b) (k := c) hr hm.1 hm.2.1 hm.2.2 hk (by omega) (by omega) 8 9 0 (f_X1_become M1 4 0 1) M2 0 0 0 1 0 (hK.of1 bf.1) hM rfl rfl (by omega) b0.1 b0.2 z1 z2 (by decide) (by decide) (by omega) (hB.same2 (bf.2 2 (by decide)) rfl)
        have ea : f_X8_addUp M1 a b c = f_X8_addUp_15 9 (f_X1_become M1 4 0 1) a b c 0 0 := by unfold f_X8_addUp; rw [bnd_eq]
        rw [ea, E1, E2]
        by_cases cz : c' = 0
        · rw [if_pos cz, if_pos cz]
          exact ⟨rfl, S, ho, hK', hM', hB'⟩
        · rw [if_neg cz, if_neg cz]
          refine ⟨rfl, ?_⟩
          have c1 : 1 ≤ c'.toInt := by
            have : ¬ c'.toInt = 0 := fun y => cz (i_ext y)
            omega
          have hL := LL_pos
          have hb0 : 0 < (M1'.2 4 1).toInt := by rw [f1]; exact rd_2pos N' hL
          have hbl : (M1'.2 4 1).toInt ≤ LL := by rw [f1]; exact rd_2le N' hL
          have hx : (M1'.2 4 0).toInt * LL = N' * (M1'.2 4 1).toInt := by rw [f0, f1]; exact rd_cross N' hL
          have ha := rd_1abs N' hL
          rw [← f0] at ha
          have hLv : 8 * (16 * LL) + LL < 9223372036854775808 := by decide
          have hL8 : LL * 8 < 9223372036854775808 := by decide
          have p1 : (M1'.2 4 1).toInt * c'.toInt ≤ LL * 8 := Int.mul_le_mul hbl hc8 (by omega) (by omega)
          have p0 : 0 < (M1'.2 4 1).toInt * c'.toInt := Int.mul_pos hb0 (by omega)
          have p2 : LL * c'.toInt ≤ LL * 8 := Int.mul_le_mul_of_nonneg_left hc8 (by omega)
          have p3 : 0 < LL * c'.toInt := Int.mul_pos hL (by omega)
          have eB : isB M1' (f_X1_become M1' 2 (f_X1_above M1' 4) (f_X1_below M1' 4 * c'.toInt64)) 2 (rd N' (LL * c'.toInt)) := by
            refine ⟨M1'.2 4 0, M1'.2 4 1 * c'.toInt64, rfl, by omega, ?_⟩
            rw [l_mul (by rw [i2l_ti]; omega) (by rw [i2l_ti]; omega), i2l_ti]
            refine rd_eq p0 p3 ?_
            rw [← Int.mul_assoc, hx, Int.mul_assoc]
          have m1 := mkG (M := M2') (a := t') (b := b') (by rw [g0, ← f0]; omega) (by rw [g1, ← f1]; omega)
          have er : rd t'.toInt b'.toInt = rd N' LL := by
            rw [g0, g1, ← f0, ← f1]
            exact rd_eq hb0 hL hx
          rw [er] at m1
          have m2 := ovG (M := f_X9_make M2' t' b') (n := c'.toInt64) (N := N') (L := LL) hL m1.1 m1.2 (by rw [i2l_ti]; omega) (by rw [m1.1, ← f0]; omega) (by rw [i2l_ti]; omega)
          rw [i2l_ti] at m2
          exact fin_board ho hK' hM' eB m2 ((fr_make M2' t' b').tr (fr_over _ _)).1
      · rw [if_neg hd, if_pos rfl, show f_X9_isMean b c = 0 from (by rw [isMn]; exact if_neg (fun z => hd z.2.2.2)), if_pos rfl]; exact ⟨rfl, h⟩
    · rw [if_neg hm, if_pos rfl, show f_X9_isMean b c = 0 from (by rw [isMn]; exact if_neg (fun z => hm ⟨z.1, z.2.1, z.2.2.1⟩)), if_pos rfl]; exact ⟨rfl, h⟩
  · rw [if_neg hr, if_pos rfl, if_pos rfl]; exact ⟨rfl, h⟩
