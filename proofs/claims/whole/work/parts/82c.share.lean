/-! 82c -/
section SH
variable {S : Ab} {M : Mem}
theorem mBs_12 (ho : okA S) {r q k : Int32} (hr : 0 ≤ r.toInt ∧ r.toInt < 4) (hq : 0 ≤ q.toInt ∧ q.toInt < 8) {kk : Nat} (hk : k.toInt = kk) (h16 : kk ≤ 16) : ∀ (g n p : Nat) (M : Mem) (v4 v5 : Int32) (a : Int), AbM S M → v5.toInt = g → g ≤ 3 → v4.toInt = p + 1 → p ≤ kk → (M.2 0 6).toInt = (rd a 720720).1 → (M.2 0 7).toInt = (rd a 720720).2 → (0 ≤ a ∧ a ≤ 5045040 * p) → g < n → ((f_X9_share_12 n M r q k v4 v5).2 0 6).toInt = (rd (GnN S (nn r) (nn q) kk) (bs S (nn q) kk g p a)).1 ∧ ((f_X9_share_12 n M r q k v4 v5).2 0 7).toInt = (rd (GnN S (nn r) (nn q) kk) (bs S (nn q) kk g p a)).2
  | _, 0, _, _, _, _, _, _, _, _, _, _, _, _, _, h => absurd h (by omega)
  | 0, n + 1, p, M, v4, v5, a, hM, h5, h3, h4, hp, t6, t7, ha, hn => by
    rw [f_X9_share_12, if_pos (show v5 ≤ 0 from Int32.le_iff_toInt_le.mpr (by show v5.toInt ≤ 0; omega))]
    simp only [bnd_eq]
    have e0 : bs S (nn q) kk 0 p a = a := rfl
    rw [e0]
    have x1 := rd_cross a (D := 720720) (by decide)
    have p1 := rd_2pos a (D := 720720) (by decide)
    rw [← t6, ← t7] at x1
    rw [← t7] at p1
    by_cases c : M.2 0 6 = 0
    · rw [if_pos c]
      have a0 : a = 0 := by
        rw [c, show (0 : Int64).toInt = 0 from rfl, Int.zero_mul] at x1
        rcases Int.mul_eq_zero.mp x1.symm with z | z
        · exact z
        · omega
      subst a0
      have m0 := mkG (M := M) (a := 0) (b := 1) (by decide) (by decide)
      have z0 : rd (0 : Int64).toInt (1 : Int64).toInt = (0, 1) := (show rd (0 : Int) 1 = (0, 1) by decide)
      rw [z0] at m0
      rw [rd_neg (Int.le_refl 0)]
      exact m0
    · rw [if_neg c]
      have a0 : 0 < a := by
        rcases Int.lt_or_le 0 a with z | z
        · exact z
        · have z2 : a = 0 := by omega
          rw [z2, Int.zero_mul] at x1
          rcases Int.mul_eq_zero.mp x1 with z3 | z3
          · exact absurd (l_ext z3) c
          · omega
      have T := mGn ho hM hr hq hk
      exact qG (by decide) (by decide) (GnN_bd S (nn r) (nn q) h16) ⟨a0, by omega⟩ T.1 T.2 t6 t7
  | g + 1, n + 1, p, M, v4, v5, a, hM, h5, h3, h4, hp, t6, t7, ha, hn => by
    rw [f_X9_share_12, if_neg (show ¬ v5 ≤ 0 from fun c => by have t : v5.toInt ≤ 0 := i_le c; omega)]
    simp only [bnd_eq]
    have eg := mGw ho hM hq v5
    have e5 : v5.toInt = (g : Int) + 1 := by omega
    rw [e5] at eg
    generalize f_X9_graded M q v5 v5 = r13 at *
    obtain ⟨v6, e6, qd⟩ : ∃ v6 : Int32, v5 + (-1) = v6 ∧ v6.toInt = g := ⟨_, rfl, by rw [dec_ok (by omega)]; omega⟩
    rw [e6]
    obtain ⟨M', y4, E, hM', z6, z7, z4⟩ := mbi (S := S) (fun M y4 => f_X9_share_12 n M r q k y4 v6) (v1 := r) (v2 := q) hk h16 (v5 := v5) (r13 := r13) ⟨by omega, by omega⟩ (Gw S (nn q) ((g : Int) + 1)) ((r13.toInt - 0 : Int).toNat + 1) p M v4 0 a hM h4 (by decide) (by rw [eg]; show (0 : Int) + _ = _; omega) hp t6 t7 ha (by omega)
    rw [E]
    rw [e5] at z6 z7 z4
    have h := bi_bd (wt_bd ((g : Int) + 1)) h16 (Gw S (nn q) ((g : Int) + 1)) p a hp ha
    have ih := mBs_12 ho hr hq hk h16 g n _ M' y4 v6 _ hM' qd (by omega) z4 h.2.1 z6 z7 h.2.2 (by omega)
    rw [bs]
    exact ih
theorem mBs (ho : okA S) (hM : AbM S M) {r q k : Int32} (hr : 0 ≤ r.toInt ∧ r.toInt < 4) (hq : 0 ≤ q.toInt ∧ q.toInt < 8) {kk : Nat} (hk : k.toInt = kk) (h16 : kk ≤ 16) : ((f_X9_share M r q k).2 0 6).toInt = (rd (GnN S (nn r) (nn q) kk) (BgN S (nn q) kk)).1 ∧ ((f_X9_share M r q k).2 0 7).toInt = (rd (GnN S (nn r) (nn q) kk) (BgN S (nn q) kk)).2 := by
  have m0 := mkG (M := M) (a := 0) (b := 1) (by decide) (by decide)
  have z0 : rd (0 : Int64).toInt (1 : Int64).toInt = rd 0 720720 := (show rd (0 : Int) 1 = rd 0 720720 by decide)
  rw [z0] at m0
  have eu : f_X9_share M r q k = f_X9_share_12 4 (f_X9_make M 0 1) r q k 1 3 := by unfold f_X9_share; rw [bnd_eq]
  rw [eu]
  exact mBs_12 ho hr hq hk h16 3 4 0 (f_X9_make M 0 1) 1 3 0 (hM.of1 (fr_make _ _ _).1) rfl (by omega) rfl (by omega) m0.1 m0.2 ⟨by omega, by omega⟩ (by omega)
end SH
