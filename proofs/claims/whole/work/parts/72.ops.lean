/-! 72: the two sides' fractions: make, plus, over; become, add -/
theorem tdiv_ex {a g : Int} (h : g ∣ a) : a.tdiv g = a / g := Int.tdiv_eq_ediv_of_dvd h
/-- make -/
theorem mkG {M : Mem} {a b : Int64} (ha : -9223372036854775808 < a.toInt) (hb : 0 ≤ b.toInt) : ((f_X9_make M a b).2 0 6).toInt = (rd a.toInt b.toInt).1 ∧ ((f_X9_make M a b).2 0 7).toInt = (rd a.toInt b.toInt).2 := by
  unfold f_X9_make
  simp only [bnd_eq]
  split
  · rename_i e
    subst e
    rw [rd_neg (show (0 : Int64).toInt ≤ 0 by decide), ul_same]
    refine ⟨?_, ?_⟩
    · show ((if (6 : Nat) = 7 then (1 : Int64) else (ul M 0 6 0).2 0 6)).toInt = 0
      rw [if_neg (by decide), ul_same]
      rfl
    · rfl
  · rename_i e
    have hb0 : 0 < b.toInt := by
      have : ¬ b.toInt = 0 := fun z => e (l_ext z)
      omega
    have eg := cmG ha hb
    have hg := gcd_pos (N := a.toInt) hb0
    rw [rd_pos hb0, ul_same]
    refine ⟨?_, ?_⟩
    · show ((if (6 : Nat) = 7 then b / f_X9_common a b else (ul M 0 6 (a / f_X9_common a b)).2 0 6)).toInt = _
      rw [if_neg (by decide), ul_same]
      show (a / f_X9_common a b).toInt = _
      rw [l_div (by rw [eg]; omega), eg, tdiv_ex (Int.gcd_dvd_left _ _)]
    · show (b / f_X9_common a b).toInt = _
      rw [l_div (by rw [eg]; omega), eg, tdiv_ex (Int.gcd_dvd_right _ _)]
/-- become -/
theorem bcG {M : Mem} {i : Nat} {a b : Int64} (ha : -9223372036854775808 < a.toInt) : ((f_X1_become M i a b).2 i 0).toInt = (rd a.toInt b.toInt).1 ∧ ((f_X1_become M i a b).2 i 1).toInt = (rd a.toInt b.toInt).2 := by
  unfold f_X1_become
  simp only [bnd_eq]
  split
  · rename_i c
    have t : 1 ≤ b.toInt := l_le c
    have hb0 : 0 < b.toInt := by omega
    have hg := gcd_pos (N := a.toInt) hb0
    have eg : (f_X8_commonDivisor a b).toInt = (Int.gcd a.toInt b.toInt : Int) := by
      rw [cdG ha (by omega)]
      omega
    rw [rd_pos hb0, ul_same]
    refine ⟨?_, ?_⟩
    · show ((if (0 : Nat) = 1 then b / f_X8_commonDivisor a b else (ul M i 0 (a / f_X8_commonDivisor a b)).2 i 0)).toInt = _
      rw [if_neg (by decide), ul_same]
      show (a / f_X8_commonDivisor a b).toInt = _
      rw [l_div (by rw [eg]; omega), eg, tdiv_ex (Int.gcd_dvd_left _ _)]
    · show (b / f_X8_commonDivisor a b).toInt = _
      rw [l_div (by rw [eg]; omega), eg, tdiv_ex (Int.gcd_dvd_right _ _)]
  · rename_i c
    have t : b.toInt < 1 := l_nle c
    rw [rd_neg (by omega), ul_same]
    refine ⟨?_, ?_⟩
    · show ((if (0 : Nat) = 1 then (1 : Int64) else (ul M i 0 0).2 i 0)).toInt = 0
      rw [if_neg (by decide), ul_same]
      rfl
    · rfl
theorem bc_fr (M : Mem) (i : Nat) (a b : Int64) : (f_X1_become M i a b).1 = M.1 ∧ ∀ j, j ≠ i → (f_X1_become M i a b).2 j = M.2 j := by
  unfold f_X1_become
  simp only [bnd_eq]
  split
  · exact ⟨rfl, fun j hj => by rw [ul_ne hj, ul_ne hj]⟩
  · exact ⟨rfl, fun j hj => by rw [ul_ne hj, ul_ne hj]⟩
/-- least common multiple, and what divides -/
theorem lcm_facts {b c L : Int} (hb : 0 < b) (hc : 0 < c) (hL : 0 < L) (h1 : b ∣ L) (h2 : c ∣ L) : ∃ g b' c' : Int, g = (Int.gcd b c : Int) ∧ 0 < g ∧ b = g * b' ∧ c = g * c' ∧ 0 < b' ∧ 0 < c' ∧ b / g = b' ∧ c / g = c' ∧ b' * c ∣ L := by
  obtain ⟨b', hb'⟩ := Int.gcd_dvd_left b c
  obtain ⟨c', hc'⟩ := Int.gcd_dvd_right b c
  have hg := gcd_pos (N := b) hc
  refine ⟨_, b', c', rfl, hg, hb', hc', ?_, ?_, ?_, ?_, ?_⟩
  · rcases Int.lt_or_le 0 b' with q | q
    · exact q
    · have := Int.mul_nonpos_of_nonneg_of_nonpos (Int.le_of_lt hg) q
      omega
  · rcases Int.lt_or_le 0 c' with q | q
    · exact q
    · have := Int.mul_nonpos_of_nonneg_of_nonpos (Int.le_of_lt hg) q
      omega
  · conv => lhs; lhs; rw [hb']
    exact Int.mul_ediv_cancel_left _ (by omega)
  · conv => lhs; lhs; rw [hc']
    exact Int.mul_ediv_cancel_left _ (by omega)
  · have hl : ((Int.lcm b c : Nat) : Int) ∣ L := Int.coe_lcm_dvd h1 h2
    have e : ((Int.lcm b c : Nat) : Int) = b' * c := by
      have e1 : ((Int.gcd b c * Int.lcm b c : Nat) : Int) = b * c := by
        rw [Int.gcd_mul_lcm]
        push_cast
        rw [Int.natAbs_of_nonneg (Int.le_of_lt hb), Int.natAbs_of_nonneg (Int.le_of_lt hc)]
      push_cast at e1
      have e2 : ((Int.gcd b c : Nat) : Int) * ((Int.lcm b c : Nat) : Int) = ((Int.gcd b c : Nat) : Int) * (b' * c) := by
        rw [e1, ← Int.mul_assoc, ← hb']
      exact Int.eq_of_mul_eq_mul_left (by omega) e2
    rw [← e]
    exact hl
/-- sums over a common L: what each side reckons stays below -/
theorem sum_core {t b N L a c : Int} (hL : 0 < L) (hb : 0 < b) (hc : 0 < c) (h1 : b ∣ L) (h2 : c ∣ L) (hx : t * L = N * b) {g b' c' : Int} (hg : 0 < g) (eb : b = g * b') (ec : c = g * c') (hb' : 0 < b') (hc' : 0 < c') (hl : b' * c ∣ L) :
    (t * c').natAbs ≤ N.natAbs ∧ (a * b').natAbs ≤ a.natAbs * (L / c).natAbs ∧ (b' * c ≤ L ∧ 0 < b' * c) ∧ (t * c' + a * b') * L = (N + a * (L / c)) * (b' * c) := by
  obtain ⟨k, hk⟩ := hl
  have hbc : 0 < b' * c := Int.mul_pos hb' hc
  have hk0 : 0 < k := by
    rcases Int.lt_or_le 0 k with q | q
    · exact q
    · have := Int.mul_nonpos_of_nonneg_of_nonpos (Int.le_of_lt hbc) q
      omega
  have e1 : L / c = b' * k := by
    rw [hk, Int.mul_comm b' c, Int.mul_assoc]
    exact Int.mul_ediv_cancel_left _ (by omega)
  have e2 : b * c' = b' * c := by
    rw [eb, ec]
    simp only [Int.mul_comm, Int.mul_left_comm, Int.mul_assoc]
  -- t c' (b' c k) = N b c' , so t c' k = N
  have e3 : t * c' * k = N := by
    have h3 : t * c' * k * (b' * c) = N * (b' * c) := by
      have a1 : t * c' * k * (b' * c) = t * (b' * c * k) * c' := by simp only [Int.mul_comm, Int.mul_left_comm, Int.mul_assoc]
      rw [a1, ← hk, hx, Int.mul_assoc, e2]
    exact Int.eq_of_mul_eq_mul_right (by omega) h3
  refine ⟨?_, ?_, ⟨?_, hbc⟩, ?_⟩
  · rw [← e3, Int.natAbs_mul (t * c') k]
    exact Nat.le_mul_of_pos_right _ (by omega)
  · rw [e1, Int.natAbs_mul, Int.natAbs_mul]
    exact Nat.mul_le_mul_left _ (Nat.le_mul_of_pos_right _ (by omega))
  · rw [hk]
    have := Int.mul_le_mul_of_nonneg_left (show (1 : Int) ≤ k by omega) (Int.le_of_lt hbc)
    omega
  · rw [e1, ← e3, hk]
    have d1 : (t * c' + a * b') * (b' * c * k) = t * c' * k * (b' * c) + a * (b' * k) * (b' * c) := by
      rw [Int.add_mul]
      congr 1
      · simp only [Int.mul_comm, Int.mul_left_comm, Int.mul_assoc]
      · simp only [Int.mul_comm, Int.mul_left_comm, Int.mul_assoc]
    rw [d1, ← Int.add_mul]
/-- plus: over a common L -/
theorem plG {M : Mem} {a c : Int64} {N L : Int} (hL : 0 < L) (hL2 : L < 9223372036854775808) (ht : (M.2 0 6).toInt = (rd N L).1) (hb : (M.2 0 7).toInt = (rd N L).2) (hc : 0 < c.toInt) (hd : c.toInt ∣ L) (hbd : N.natAbs + a.toInt.natAbs * (L / c.toInt).natAbs < 9223372036854775808) :
    ((f_X9_plus M a c).2 0 6).toInt = (rd (N + a.toInt * (L / c.toInt)) L).1 ∧ ((f_X9_plus M a c).2 0 7).toInt = (rd (N + a.toInt * (L / c.toInt)) L).2 := by
  have hb0 : 0 < (M.2 0 7).toInt := by rw [hb]; exact rd_2pos N hL
  have hbd2 : (M.2 0 7).toInt ∣ L := by rw [hb]; exact rd_2dvd N hL
  have hx : (M.2 0 6).toInt * L = N * (M.2 0 7).toInt := by rw [ht, hb]; exact rd_cross N hL
  obtain ⟨g, b', c', eg, hg, eb, ec, hb', hc', db, dc, hl⟩ := lcm_facts hb0 hc hL hbd2 hd
  obtain ⟨s1, s2, s3, s4⟩ := sum_core (a := a.toInt) hL hb0 hc hbd2 hd hx hg eb ec hb' hc' hl
  have r7 := l_rg (M.2 0 7)
  have G : (f_X9_common (M.2 0 7) c).toInt = g := by rw [eg]; exact cmG (by omega) (by omega)
  have q1 : (c / f_X9_common (M.2 0 7) c).toInt = c' := by rw [l_div (by rw [G]; omega), G, tdiv_ex ⟨c', ec⟩, dc]
  have q2 : ((M.2 0 7) / f_X9_common (M.2 0 7) c).toInt = b' := by rw [l_div (by rw [G]; omega), G, tdiv_ex ⟨b', eb⟩, db]
  unfold f_X9_plus
  simp only [bnd_eq]
  have m1 : ((M.2 0 6) * (c / f_X9_common (M.2 0 7) c)).toInt = (M.2 0 6).toInt * c' := by rw [l_mul (by rw [q1]; omega) (by rw [q1]; omega), q1]
  have m2 : (a * ((M.2 0 7) / f_X9_common (M.2 0 7) c)).toInt = a.toInt * b' := by rw [l_mul (by rw [q2]; omega) (by rw [q2]; omega), q2]
  have m3 : ((M.2 0 6) * (c / f_X9_common (M.2 0 7) c) + a * ((M.2 0 7) / f_X9_common (M.2 0 7) c)).toInt = (M.2 0 6).toInt * c' + a.toInt * b' := by
    rw [l_add (by rw [m1, m2]; omega) (by rw [m1, m2]; omega), m1, m2]
  have m4 : (((M.2 0 7) / f_X9_common (M.2 0 7) c) * c).toInt = b' * c.toInt := by rw [l_mul (by rw [q2]; omega) (by rw [q2]; omega), q2]
  have R := mkG (M := M) (a := (M.2 0 6) * (c / f_X9_common (M.2 0 7) c) + a * ((M.2 0 7) / f_X9_common (M.2 0 7) c)) (b := ((M.2 0 7) / f_X9_common (M.2 0 7) c) * c) (by rw [m3]; omega) (by rw [m4]; omega)
  rw [m3, m4, rd_eq (by omega) hL s4] at R
  exact R
/-- over -/
theorem ovG {M : Mem} {n : Int64} {N L : Int} (hL : 0 < L) (ht : (M.2 0 6).toInt = (rd N L).1) (hb : (M.2 0 7).toInt = (rd N L).2) (hn : 0 ≤ n.toInt) (hN6 : -9223372036854775808 < (M.2 0 6).toInt) (hbd : L * n.toInt < 9223372036854775808) :
    ((f_X9_over M n).2 0 6).toInt = (rd N (L * n.toInt)).1 ∧ ((f_X9_over M n).2 0 7).toInt = (rd N (L * n.toInt)).2 := by
  have hb0 : 0 < (M.2 0 7).toInt := by rw [hb]; exact rd_2pos N hL
  have hx : (M.2 0 6).toInt * L = N * (M.2 0 7).toInt := by rw [ht, hb]; exact rd_cross N hL
  have hle : (M.2 0 7).toInt ≤ L := by rw [hb]; exact rd_2le N hL
  have r6 := l_rg (M.2 0 6)
  unfold f_X9_over
  simp only [bnd_eq]
  split
  · rename_i e
    subst e
    have R := mkG (M := M) (a := 0) (b := 1) (by decide) (by decide)
    rw [R.1, R.2, rd_neg (show L * (0 : Int64).toInt ≤ 0 by rw [show (0 : Int64).toInt = 0 from rfl]; omega)]
    exact ⟨rfl, rfl⟩
  · rename_i e
    have hn0 : 0 < n.toInt := by
      have : ¬ n.toInt = 0 := fun z => e (l_ext z)
      omega
    -- g = gcd of top and n
    obtain ⟨t', ht'⟩ := Int.gcd_dvd_left (M.2 0 6).toInt n.toInt
    obtain ⟨n', hn'⟩ := Int.gcd_dvd_right (M.2 0 6).toInt n.toInt
    have hg := gcd_pos (N := (M.2 0 6).toInt) hn0
    have hr6 : -9223372036854775808 < (M.2 0 6).toInt := hN6
    have G : (f_X9_common (M.2 0 6) n).toInt = (Int.gcd (M.2 0 6).toInt n.toInt : Int) := cmG hr6 (by omega)
    have hn'0 : 0 < n' := by
      rcases Int.lt_or_le 0 n' with q | q
      · exact q
      · have := Int.mul_nonpos_of_nonneg_of_nonpos (Int.le_of_lt hg) q
        omega
    have q1 : ((M.2 0 6) / f_X9_common (M.2 0 6) n).toInt = t' := by
      rw [l_div (by rw [G]; omega), G, tdiv_ex ⟨t', ht'⟩]
      conv => lhs; lhs; rw [ht']
      exact Int.mul_ediv_cancel_left _ (by omega)
    have q2 : (n / f_X9_common (M.2 0 6) n).toInt = n' := by
      rw [l_div (by rw [G]; omega), G, tdiv_ex ⟨n', hn'⟩]
      conv => lhs; lhs; rw [hn']
      exact Int.mul_ediv_cancel_left _ (by omega)
    have hn'le : n' ≤ n.toInt := by
      have h9 := Int.mul_le_mul_of_nonneg_right (show (1 : Int) ≤ ((Int.gcd (M.2 0 6).toInt n.toInt : Nat) : Int) by omega) (Int.le_of_lt hn'0)
      omega
    have hp : (M.2 0 7).toInt * n' ≤ L * n.toInt := Int.mul_le_mul hle hn'le (Int.le_of_lt hn'0) (Int.le_of_lt hL)
    have hp0 : 0 < (M.2 0 7).toInt * n' := Int.mul_pos hb0 hn'0
    have m4 : ((M.2 0 7) * (n / f_X9_common (M.2 0 6) n)).toInt = (M.2 0 7).toInt * n' := by rw [l_mul (by rw [q2]; omega) (by rw [q2]; omega), q2]
    have hta : t'.natAbs ≤ (M.2 0 6).toInt.natAbs := by
      have h8 := congrArg Int.natAbs ht'
      rw [Int.natAbs_mul] at h8
      rw [h8]
      exact Nat.le_mul_of_pos_left _ (by omega)
    have R := mkG (M := M) (a := (M.2 0 6) / f_X9_common (M.2 0 6) n) (b := (M.2 0 7) * (n / f_X9_common (M.2 0 6) n)) (by rw [q1]; omega) (by rw [m4]; omega)
    have hLn : 0 < L * n.toInt := Int.mul_pos hL hn0
    have key : t' * (L * n.toInt) = N * ((M.2 0 7).toInt * n') := by
      have d1 : t' * (L * n.toInt) = (M.2 0 6).toInt * L * n' := by
        conv => rhs; rw [ht']
        conv => lhs; rw [hn']
        simp only [Int.mul_comm, Int.mul_left_comm, Int.mul_assoc]
      rw [d1, hx, Int.mul_assoc]
    rw [q1, m4, rd_eq hp0 hLn key] at R
    exact R
/-- add (times 1 or -1), over a common L -/
theorem adG {M : Mem} {i j : Nat} {s : Int64} {N N1 L : Int} (hij : i ≠ j) (hL : 0 < L) (hL2 : L < 9223372036854775808) (hs : s.toInt = 1 ∨ s.toInt = -1) (ht : (M.2 i 0).toInt = (rd N L).1) (hb : (M.2 i 1).toInt = (rd N L).2) (ht1 : (M.2 j 0).toInt = (rd N1 L).1) (hb1 : (M.2 j 1).toInt = (rd N1 L).2) (hbd : N.natAbs + N1.natAbs < 9223372036854775808) :
    ((f_X1_add M i j s).2 i 0).toInt = (rd (N + s.toInt * N1) L).1 ∧ ((f_X1_add M i j s).2 i 1).toInt = (rd (N + s.toInt * N1) L).2 := by
  have hb0 : 0 < (M.2 i 1).toInt := by rw [hb]; exact rd_2pos N hL
  have hc0 : 0 < (M.2 j 1).toInt := by rw [hb1]; exact rd_2pos N1 hL
  have hbd2 : (M.2 i 1).toInt ∣ L := by rw [hb]; exact rd_2dvd N hL
  have hcd2 : (M.2 j 1).toInt ∣ L := by rw [hb1]; exact rd_2dvd N1 hL
  have hx : (M.2 i 0).toInt * L = N * (M.2 i 1).toInt := by rw [ht, hb]; exact rd_cross N hL
  have hx1 : (M.2 j 0).toInt * L = N1 * (M.2 j 1).toInt := by rw [ht1, hb1]; exact rd_cross N1 hL
  obtain ⟨g, b', c', eg, hg, eb, ec, hb', hc', db, dc, hl⟩ := lcm_facts hb0 hc0 hL hbd2 hcd2
  obtain ⟨s1, s2, s3, s4⟩ := sum_core (a := s.toInt * (M.2 j 0).toInt) hL hb0 hc0 hbd2 hcd2 hx hg eb ec hb' hc' hl
  have r7 := l_rg (M.2 i 1)
  have r8 := l_rg (M.2 j 1)
  have ra := l_rg (M.2 j 0)
  -- the other's part
  have eN1 : s.toInt * (M.2 j 0).toInt * (L / (M.2 j 1).toInt) = s.toInt * N1 := by
    obtain ⟨k, hk⟩ := hcd2
    have e1 : L / (M.2 j 1).toInt = k := by
      conv => lhs; lhs; rw [hk]
      exact Int.mul_ediv_cancel_left _ (by omega)
    have e2 : (M.2 j 0).toInt * k * (M.2 j 1).toInt = N1 * (M.2 j 1).toInt := by
      rw [← hx1]
      conv => rhs; rw [hk]
      simp only [Int.mul_comm, Int.mul_left_comm, Int.mul_assoc]
    have e3 : (M.2 j 0).toInt * k = N1 := Int.eq_of_mul_eq_mul_right (by omega) e2
    rw [e1, Int.mul_assoc, e3]
  have hN1a : ((s.toInt * (M.2 j 0).toInt) * b').natAbs ≤ N1.natAbs := by
    refine Nat.le_trans s2 ?_
    rw [← Int.natAbs_mul, eN1]
    rcases hs with h | h <;> rw [h] <;> omega
  rw [eN1] at s4
  have G : (f_X8_commonDivisor (M.2 i 1) (M.2 j 1)).toInt = g := by
    rw [cdG (by omega) (by omega), ← eg]
    omega
  have q2 : ((M.2 i 1) / f_X8_commonDivisor (M.2 i 1) (M.2 j 1)).toInt = b' := by rw [l_div (by rw [G]; omega), G, tdiv_ex ⟨b', eb⟩, db]
  have m4 : (f_X8_commonMultiple (M.2 i 1) (M.2 j 1)).toInt = b' * (M.2 j 1).toInt := by
    unfold f_X8_commonMultiple
    rw [bnd_eq, l_mul (by rw [q2]; omega) (by rw [q2]; omega), q2]
  have d1 : (f_X8_commonMultiple (M.2 i 1) (M.2 j 1) / (M.2 i 1)).toInt = c' := by
    have h9 : b' * (M.2 j 1).toInt = (M.2 i 1).toInt * c' := by
      conv => lhs; rw [ec]
      conv => rhs; rw [eb]
      simp only [Int.mul_comm, Int.mul_left_comm, Int.mul_assoc]
    rw [l_div (by omega), m4, h9, tdiv_ex ⟨c', rfl⟩]
    exact Int.mul_ediv_cancel_left _ (by omega)
  have d2 : (f_X8_commonMultiple (M.2 i 1) (M.2 j 1) / (M.2 j 1)).toInt = b' := by
    rw [l_div (by omega), m4, tdiv_ex ⟨b', Int.mul_comm _ _⟩]
    exact Int.mul_ediv_cancel _ (by omega)
  have hsa : (s * (M.2 j 0)).toInt = s.toInt * (M.2 j 0).toInt := by
    have hlow : -9223372036854775808 < (M.2 j 0).toInt := by
      have := rd_1abs N1 hL
      rw [← ht1] at this
      omega
    rcases hs with h | h <;> exact l_mul (by rw [h]; omega) (by rw [h]; omega)
  have m1 : ((M.2 i 0) * (f_X8_commonMultiple (M.2 i 1) (M.2 j 1) / (M.2 i 1))).toInt = (M.2 i 0).toInt * c' := by rw [l_mul (by rw [d1]; omega) (by rw [d1]; omega), d1]
  have m2 : ((s * (M.2 j 0)) * (f_X8_commonMultiple (M.2 i 1) (M.2 j 1) / (M.2 j 1))).toInt = s.toInt * (M.2 j 0).toInt * b' := by rw [l_mul (by rw [d2, hsa]; omega) (by rw [d2, hsa]; omega), d2, hsa]
  have m3 : ((M.2 i 0) * (f_X8_commonMultiple (M.2 i 1) (M.2 j 1) / (M.2 i 1)) + (s * (M.2 j 0)) * (f_X8_commonMultiple (M.2 i 1) (M.2 j 1) / (M.2 j 1))).toInt = (M.2 i 0).toInt * c' + s.toInt * (M.2 j 0).toInt * b' := by
    rw [l_add (by rw [m1, m2]; omega) (by rw [m1, m2]; omega), m1, m2]
  unfold f_X1_add
  simp only [bnd_eq]
  have c1 : ¬ M.2 i 1 < 1 := fun z => by have t : (M.2 i 1).toInt < 1 := l_lt z; omega
  have c2 : (1 : Int64) ≤ M.2 j 1 := Int64.le_iff_toInt_le.mpr (by show (1 : Int) ≤ _; omega)
  rw [if_neg c1, if_pos c2]
  have R := bcG (M := M) (i := i) (a := (M.2 i 0) * (f_X8_commonMultiple (M.2 i 1) (M.2 j 1) / (M.2 i 1)) + (s * (M.2 j 0)) * (f_X8_commonMultiple (M.2 i 1) (M.2 j 1) / (M.2 j 1))) (b := f_X8_commonMultiple (M.2 i 1) (M.2 j 1)) (by rw [m3]; omega)
  rw [m3, m4, rd_eq (by omega) hL s4] at R
  exact R
