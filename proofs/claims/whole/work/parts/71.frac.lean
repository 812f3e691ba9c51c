/-! 71: fractions in least numbers -/
def rd (N D : Int) : Int × Int := if D ≤ 0 then (0, 1) else (N / (Int.gcd N D : Int), D / (Int.gcd N D : Int))
theorem rd_pos {N D : Int} (h : 0 < D) : rd N D = (N / (Int.gcd N D : Int), D / (Int.gcd N D : Int)) := if_neg (by omega)
theorem rd_neg {N D : Int} (h : D ≤ 0) : rd N D = (0, 1) := if_pos h
theorem gcd_pos {N D : Int} (h : 0 < D) : (0 : Int) < (Int.gcd N D : Int) := by
  have : 0 < Int.gcd N D := Int.gcd_pos_of_ne_zero_right _ (by omega)
  omega
theorem rd_scale {N D k : Int} (hk : 0 < k) (hD : 0 < D) : rd (N * k) (D * k) = rd N D := by
  have h1 : 0 < D * k := Int.mul_pos hD hk
  rw [rd_pos h1, rd_pos hD]
  have e : ((Int.gcd (N * k) (D * k) : Nat) : Int) = (Int.gcd N D : Int) * k := by
    rw [Int.gcd_mul_right]
    push_cast
    have : ((k.natAbs : Nat) : Int) = k := by omega
    rw [this]
  rw [e, Int.mul_ediv_mul_of_pos_left _ _ hk, Int.mul_ediv_mul_of_pos_left _ _ hk]
theorem rd_eq {N D N' D' : Int} (hD : 0 < D) (hD' : 0 < D') (h : N * D' = N' * D) : rd N D = rd N' D' := by
  rw [← rd_scale hD' hD, h, Int.mul_comm D D', rd_scale hD hD']
theorem rd_2pos (N : Int) {D : Int} (h : 0 < D) : 0 < (rd N D).2 := by
  rw [rd_pos h]
  have hg := gcd_pos (N := N) h
  exact Int.ediv_pos_of_pos_of_dvd h (by omega) (Int.gcd_dvd_right _ _)
theorem rd_2dvd (N : Int) {D : Int} (h : 0 < D) : (rd N D).2 ∣ D := by
  rw [rd_pos h]
  exact Int.ediv_dvd_of_dvd (Int.gcd_dvd_right _ _)
theorem rd_2le (N : Int) {D : Int} (h : 0 < D) : (rd N D).2 ≤ D := Int.le_of_dvd h (rd_2dvd N h)
theorem rd_cross (N : Int) {D : Int} (h : 0 < D) : (rd N D).1 * D = N * (rd N D).2 := by
  rw [rd_pos h]
  obtain ⟨n, hn⟩ := Int.gcd_dvd_left N D
  obtain ⟨d, hd⟩ := Int.gcd_dvd_right N D
  have hg := gcd_pos (N := N) h
  have hg0 : ((Int.gcd N D : Nat) : Int) ≠ 0 := by omega
  show N / ((Int.gcd N D : Nat) : Int) * D = N * (D / ((Int.gcd N D : Nat) : Int))
  have e1 : N / ((Int.gcd N D : Nat) : Int) = n := by
    conv => lhs; lhs; rw [hn]
    exact Int.mul_ediv_cancel_left _ hg0
  have e2 : D / ((Int.gcd N D : Nat) : Int) = d := by
    conv => lhs; lhs; rw [hd]
    exact Int.mul_ediv_cancel_left _ hg0
  rw [e1, e2]
  have h1 : n * D = n * (((Int.gcd N D : Nat) : Int) * d) := congrArg (n * ·) hd
  have h2 : N * d = ((Int.gcd N D : Nat) : Int) * n * d := congrArg (· * d) hn
  rw [h1, h2]
  simp only [Int.mul_comm, Int.mul_left_comm, Int.mul_assoc]
theorem rd_1abs (N : Int) {D : Int} (h : 0 < D) : (rd N D).1.natAbs ≤ N.natAbs := by
  rw [rd_pos h]
  show (N / ((Int.gcd N D : Nat) : Int)).natAbs ≤ N.natAbs
  obtain ⟨n, hn⟩ := Int.gcd_dvd_left N D
  have hg := gcd_pos (N := N) h
  have e1 : N / ((Int.gcd N D : Nat) : Int) = n := by
    conv => lhs; lhs; rw [hn]
    exact Int.mul_ediv_cancel_left _ (by omega)
  rw [e1]
  have h2 : N.natAbs = Int.gcd N D * n.natAbs := by
    have := congrArg Int.natAbs hn
    rw [Int.natAbs_mul] at this
    exact this
  rw [h2]
  exact Nat.le_mul_of_pos_left _ (by omega)
