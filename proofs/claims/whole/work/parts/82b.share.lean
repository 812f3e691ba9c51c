/-! 82b -/
/-- one fraction over another -/
theorem qG {M7 : Mem} {w4 w5 : Int64} {G B P : Int} (hP : 0 < P) (hP2 : P ≤ 720720) (hG : 0 ≤ G ∧ G ≤ 80720640) (hB : 0 < B ∧ B ≤ 80720640) (t6 : (M7.2 0 6).toInt = (rd G P).1) (t7 : (M7.2 0 7).toInt = (rd G P).2) (b6 : w4.toInt = (rd B P).1) (b7 : w5.toInt = (rd B P).2) :
    ((f_X9_make M7 (((M7.2 0 6) / f_X9_common (M7.2 0 6) w4) * (w5 / f_X9_common w5 (M7.2 0 7))) (((M7.2 0 7) / f_X9_common w5 (M7.2 0 7)) * (w4 / f_X9_common (M7.2 0 6) w4))).2 0 6).toInt = (rd G B).1 ∧
    ((f_X9_make M7 (((M7.2 0 6) / f_X9_common (M7.2 0 6) w4) * (w5 / f_X9_common w5 (M7.2 0 7))) (((M7.2 0 7) / f_X9_common w5 (M7.2 0 7)) * (w4 / f_X9_common (M7.2 0 6) w4))).2 0 7).toInt = (rd G B).2 := by
  have x1 := rd_cross G hP
  have x2 := rd_cross B hP
  have p1 := rd_2pos G hP
  have p2 := rd_2pos B hP
  have l1 := rd_2le G hP
  have l2 := rd_2le B hP
  have a1 := rd_1abs G hP
  have a2 := rd_1abs B hP
  rw [← t6, ← t7] at x1
  rw [← b6, ← b7] at x2
  rw [← t7] at p1 l1
  rw [← b7] at p2 l2
  rw [← t6] at a1
  rw [← b6] at a2
  have w40 : 0 < w4.toInt := by
    rcases Int.lt_or_le 0 w4.toInt with z | z
    · exact z
    · have h1 := Int.mul_nonpos_of_nonpos_of_nonneg z (Int.le_of_lt hP)
      have h2 := Int.mul_pos hB.1 p2
      omega
  have t0 : 0 ≤ (M7.2 0 6).toInt := by
    rcases Int.lt_or_le (M7.2 0 6).toInt 0 with z | z
    · have h1 := Int.mul_neg_of_neg_of_pos z hP
      have h2 := Int.mul_nonneg hG.1 (Int.le_of_lt p1)
      omega
    · exact z
  have G8 : (f_X9_common (M7.2 0 6) w4).toInt = (Int.gcd (M7.2 0 6).toInt w4.toInt : Int) := cmG (by omega) (by omega)
  have G9 : (f_X9_common w5 (M7.2 0 7)).toInt = (Int.gcd w5.toInt (M7.2 0 7).toInt : Int) := cmG (by omega) (by omega)
  have g8 := gcd_pos (N := (M7.2 0 6).toInt) w40
  have g9 := gcd_pos (N := w5.toInt) p1
  obtain ⟨t', ht'⟩ := Int.gcd_dvd_left (M7.2 0 6).toInt w4.toInt
  obtain ⟨w', hw'⟩ := Int.gcd_dvd_right (M7.2 0 6).toInt w4.toInt
  obtain ⟨v', hv'⟩ := Int.gcd_dvd_left w5.toInt (M7.2 0 7).toInt
  obtain ⟨b', hb'⟩ := Int.gcd_dvd_right w5.toInt (M7.2 0 7).toInt
  generalize hg8 : ((Int.gcd (M7.2 0 6).toInt w4.toInt : Nat) : Int) = g at *
  generalize hg9 : ((Int.gcd w5.toInt (M7.2 0 7).toInt : Nat) : Int) = h at *
  have q1 : ((M7.2 0 6) / f_X9_common (M7.2 0 6) w4).toInt = t' := by
    rw [l_div (by rw [G8]; omega), G8, tdiv_ex ⟨t', ht'⟩, ht']
    exact Int.mul_ediv_cancel_left _ (by omega)
  have q2 : (w4 / f_X9_common (M7.2 0 6) w4).toInt = w' := by
    rw [l_div (by rw [G8]; omega), G8, tdiv_ex ⟨w', hw'⟩, hw']
    exact Int.mul_ediv_cancel_left _ (by omega)
  have q3 : (w5 / f_X9_common w5 (M7.2 0 7)).toInt = v' := by
    rw [l_div (by rw [G9]; omega), G9, tdiv_ex ⟨v', hv'⟩, hv']
    exact Int.mul_ediv_cancel_left _ (by omega)
  have q4 : ((M7.2 0 7) / f_X9_common w5 (M7.2 0 7)).toInt = b' := by
    rw [l_div (by rw [G9]; omega), G9, tdiv_ex ⟨b', hb'⟩, hb']
    exact Int.mul_ediv_cancel_left _ (by omega)
  have fac : ∀ {x d y : Int}, 0 < d → x = d * y → 0 ≤ x → 0 ≤ y ∧ y ≤ x := by
    intro x d y hd hx h0
    have y0 : 0 ≤ y := by
      rcases Int.lt_or_le y 0 with z | z
      · have := Int.mul_neg_of_pos_of_neg hd z
        omega
      · exact z
    have := Int.mul_le_mul_of_nonneg_right (show (1 : Int) ≤ d by omega) y0
    omega
  have f1 := fac g8 ht' t0
  have f2 := fac g8 hw' (by omega)
  have f3 := fac g9 hv' (by omega)
  have f4 := fac g9 hb' (by omega)
  have w'0 : 0 < w' := by
    rcases Int.lt_or_le 0 w' with z | z
    · exact z
    · have := Int.mul_nonpos_of_nonneg_of_nonpos (Int.le_of_lt g8) z
      omega
  have b'0 : 0 < b' := by
    rcases Int.lt_or_le 0 b' with z | z
    · exact z
    · have := Int.mul_nonpos_of_nonneg_of_nonpos (Int.le_of_lt g9) z
      omega
  have n0 : 0 ≤ t' * v' := Int.mul_nonneg f1.1 f3.1
  have n1 : t' * v' ≤ 80720640 * 720720 := Int.mul_le_mul (by omega) (by omega) f3.1 (by decide)
  have d0 : 0 < b' * w' := Int.mul_pos b'0 w'0
  have d1 : b' * w' ≤ 720720 * 80720640 := Int.mul_le_mul (by omega) (by omega) f2.1 (by decide)
  have m1 : (((M7.2 0 6) / f_X9_common (M7.2 0 6) w4) * (w5 / f_X9_common w5 (M7.2 0 7))).toInt = t' * v' := by
    rw [l_mul (by rw [q1, q3]; omega) (by rw [q1, q3]; omega), q1, q3]
  have m2 : (((M7.2 0 7) / f_X9_common w5 (M7.2 0 7)) * (w4 / f_X9_common (M7.2 0 6) w4)).toInt = b' * w' := by
    rw [l_mul (by rw [q4, q2]; omega) (by rw [q4, q2]; omega), q4, q2]
  have R := mkG (M := M7) (a := ((M7.2 0 6) / f_X9_common (M7.2 0 6) w4) * (w5 / f_X9_common w5 (M7.2 0 7))) (b := ((M7.2 0 7) / f_X9_common w5 (M7.2 0 7)) * (w4 / f_X9_common (M7.2 0 6) w4)) (by rw [m1]; omega) (by rw [m2]; omega)
  have key : t' * v' * B = G * (b' * w') := by
    have k1 : (t' * v' * B) * (g * h * P) = (G * (b' * w')) * (g * h * P) := by
      have c1 : (t' * v' * B) * (g * h * P) = (g * t') * P * (B * (h * v')) := by simp only [Int.mul_comm, Int.mul_left_comm, Int.mul_assoc]
      have c2 : (G * (b' * w')) * (g * h * P) = G * (h * b') * ((g * w') * P) := by simp only [Int.mul_comm, Int.mul_left_comm, Int.mul_assoc]
      rw [c1, c2, ← ht', ← hv', ← hb', ← hw', x1, x2]
    have k2 : 0 < g * h * P := Int.mul_pos (Int.mul_pos g8 g9) hP
    exact Int.eq_of_mul_eq_mul_right (by omega) k1
  rw [m1, m2, rd_eq d0 hB.1 key] at R
  exact R
