/-! 82: SHARE -/
def bi (kk : Nat) (w : Int) : Nat → Nat → Int → Int × Nat
  | 0, p, a => (a, p)
  | m + 1, p, a => if kk ≤ p then (a, p) else bi kk w m (p + 1) (a + w * (720720 / ((p : Int) + 1)))
theorem bi_s (kk : Nat) (w : Int) (m p : Nat) (a : Int) : bi kk w (m + 1) p a = if kk ≤ p then (a, p) else bi kk w m (p + 1) (a + w * (720720 / ((p : Int) + 1))) := rfl
theorem bi_t {w : Int} (hw : 0 ≤ w ∧ w ≤ 7) {p : Nat} (hp : p < 16) : 0 ≤ w * (720720 / ((p : Int) + 1)) ∧ w * (720720 / ((p : Int) + 1)) ≤ 5045040 := by
  have hd := divP_bd hp
  have a1 : 0 ≤ w * (720720 / ((p : Int) + 1)) := Int.mul_nonneg (by omega) (by omega)
  have a2 : w * (720720 / ((p : Int) + 1)) ≤ 7 * 720720 := Int.mul_le_mul (by omega) hd.2 (by omega) (by decide)
  omega
theorem bi_bd {kk : Nat} {w : Int} (hw : 0 ≤ w ∧ w ≤ 7) (hk : kk ≤ 16) : ∀ (m p : Nat) (a : Int), p ≤ kk → (0 ≤ a ∧ a ≤ 5045040 * p) → p ≤ (bi kk w m p a).2 ∧ (bi kk w m p a).2 ≤ kk ∧ 0 ≤ (bi kk w m p a).1 ∧ (bi kk w m p a).1 ≤ 5045040 * (((bi kk w m p a).2 : Nat) : Int)
  | 0, p, a, hp, ha => ⟨Nat.le_refl _, hp, ha.1, ha.2⟩
  | m + 1, p, a, hp, ha => by
    rw [bi_s]
    by_cases c : kk ≤ p
    · rw [if_pos c]; exact ⟨Nat.le_refl _, hp, ha.1, ha.2⟩
    · rw [if_neg c]
      have h := bi_t hw (p := p) (by omega)
      have ih := bi_bd hw hk m (p + 1) (a + w * (720720 / ((p : Int) + 1))) (by omega) ⟨by omega, by omega⟩
      exact ⟨by omega, ih.2⟩
theorem kbi (K : Int64 → Int32 → Int64) {M : Mem} {o : Nat} {v1 v5 : Int32} {kk : Nat} (hk : v1.toInt = kk) (h16 : kk ≤ 16) (h5 : 1 ≤ v5.toInt ∧ v5.toInt ≤ 3) : ∀ (m n p : Nat) (x5 u4 : Int32) (u2 : Int64) (a : Int), u4.toInt = p + 1 → x5.toInt = p + 1 + m → p ≤ kk → u2.toInt = a → (0 ≤ a ∧ a ≤ 5045040 * p) → kk - p < n → ∃ y2 y4, f_X3_bestGainParts_25 K n M o v1 v5 x5 u2 u4 = K y2 y4 ∧ y2.toInt = (bi kk (wt v5.toInt) m p a).1 ∧ y4.toInt = ((bi kk (wt v5.toInt) m p a).2 : Int) + 1
  | _, 0, _, _, _, _, _, _, _, _, _, _, h => absurd h (by omega)
  | 0, n + 1, p, x5, u4, u2, a, h4, hx, hp, h2, ha, hn => by
    refine ⟨u2, u4, ?_, h2, h4⟩
    rw [f_X3_bestGainParts_25, if_neg (show ¬ u4 < 1 from fun c => by have t : u4.toInt < 1 := i_lt c; omega), if_pos (show x5 ≤ u4 from Int32.le_iff_toInt_le.mpr (by omega))]
  | m + 1, n + 1, p, x5, u4, u2, a, h4, hx, hp, h2, ha, hn => by
    rw [f_X3_bestGainParts_25, if_neg (show ¬ u4 < 1 from fun c => by have t : u4.toInt < 1 := i_lt c; omega), if_neg (show ¬ x5 ≤ u4 from fun c => by have t := i_le c; omega), bi_s]
    by_cases c : kk ≤ p
    · rw [if_pos (show v1 < u4 from Int32.lt_iff_toInt_lt.mpr (by omega)), if_pos c]
      exact ⟨u2, u4, rfl, h2, h4⟩
    · rw [if_neg (show ¬ v1 < u4 from fun z => by have t := i_lt z; omega), if_neg c]
      simp only [bnd_eq]
      have hb := bi_t (wt_bd v5.toInt) (p := p) (by omega)
      have e1 := kW (x := v5) ⟨by omega, h5.2⟩
      have e2 := kdivP h4
      have qv := inc_sp u4
      have e3 : (f_X3_weightOf v5 * (720720 / u4.toInt64)).toInt = wt v5.toInt * (720720 / ((p : Int) + 1)) := by
        rw [l_mul (by rw [e1, e2]; omega) (by rw [e1, e2]; omega), e1, e2]
      have e4 : (u2 + f_X3_weightOf v5 * (720720 / u4.toInt64)).toInt = a + wt v5.toInt * (720720 / ((p : Int) + 1)) := by
        rw [l_add (by rw [e3, h2]; omega) (by rw [e3, h2]; omega), e3, h2]
      exact kbi K hk h16 h5 m n (p + 1) x5 (u4 + 1) _ _ (by omega) (by omega) (by omega) e4 ⟨by omega, by omega⟩ (by omega)
theorem mbi {S : Ab} (K : Mem → Int32 → Mem) {v1 v2 v3 v5 r13 : Int32} {kk : Nat} (hk : v3.toInt = kk) (h16 : kk ≤ 16) (h5 : 1 ≤ v5.toInt ∧ v5.toInt ≤ 3) : ∀ (m n p : Nat) (M : Mem) (u4 u7 : Int32) (a : Int), AbM S M → u4.toInt = p + 1 → 0 ≤ u7.toInt → u7.toInt + m = r13.toInt → p ≤ kk → (M.2 0 6).toInt = (rd a 720720).1 → (M.2 0 7).toInt = (rd a 720720).2 → (0 ≤ a ∧ a ≤ 5045040 * p) → m < n → ∃ M' y4, f_X9_share_31 K n M v1 v2 v3 v5 r13 u4 u7 = K M' y4 ∧ AbM S M' ∧ (M'.2 0 6).toInt = (rd (bi kk (wt v5.toInt) m p a).1 720720).1 ∧ (M'.2 0 7).toInt = (rd (bi kk (wt v5.toInt) m p a).1 720720).2 ∧ y4.toInt = ((bi kk (wt v5.toInt) m p a).2 : Int) + 1
  | _, 0, _, _, _, _, _, _, _, _, _, _, _, _, _, h => absurd h (by omega)
  | 0, n + 1, p, M, u4, u7, a, hM, h4, h70, h7, hp, t6, t7, ha, hn => by
    refine ⟨M, u4, ?_, hM, t6, t7, h4⟩
    rw [f_X9_share_31, if_pos (show r13 ≤ u7 from Int32.le_iff_toInt_le.mpr (by omega))]
  | m + 1, n + 1, p, M, u4, u7, a, hM, h4, h70, h7, hp, t6, t7, ha, hn => by
    rw [f_X9_share_31, if_neg (show ¬ r13 ≤ u7 from fun c => by have t := i_le c; omega), bi_s]
    by_cases c : kk ≤ p
    · rw [if_pos (show v3 < u4 from Int32.lt_iff_toInt_lt.mpr (by omega)), if_pos c]
      exact ⟨M, u4, rfl, hM, t6, t7, h4⟩
    · rw [if_neg (show ¬ v3 < u4 from fun z => by have t := i_lt z; omega), if_neg c]
      simp only [bnd_eq]
      have hb := bi_t (wt_bd v5.toInt) (p := p) (by omega)
      have e1 : ((f_X9_worth v5).toInt64).toInt = wt v5.toInt := by rw [i2l_ti, mW h5]
      have e2 : (u4.toInt64).toInt = (p : Int) + 1 := by rw [i2l_ti, h4]
      have qv := inc_sp u4
      have qw := inc_sp u7
      have rr := i_rg r13
      have R := plG (M := M) (a := (f_X9_worth v5).toInt64) (c := u4.toInt64) (N := a) (L := 720720) (by decide) (by decide) t6 t7 (by rw [e2]; omega) (by rw [e2]; exact dvdPi (by omega)) (by rw [e1, e2, ← Int.natAbs_mul]; omega)
      rw [e1, e2] at R
      exact mbi K hk h16 h5 m n (p + 1) _ (u4 + 1) (u7 + 1) _ (hM.of1 (fr_plus _ _ _).1) (by omega) (by omega) (by omega) (by omega) R.1 R.2 ⟨by omega, by omega⟩ (by omega)
def bs (S : Ab) (q kk : Nat) : Nat → Nat → Int → Int
  | 0, _, a => a
  | g + 1, p, a => bs S q kk g (bi kk (wt ((g : Int) + 1)) (Gw S q ((g : Int) + 1)) p a).2 (bi kk (wt ((g : Int) + 1)) (Gw S q ((g : Int) + 1)) p a).1
def BgN (S : Ab) (q kk : Nat) : Int := bs S q kk 3 0 0
theorem bs_bd (S : Ab) (q : Nat) {kk : Nat} (hk : kk ≤ 16) : ∀ (g p : Nat) (a : Int), p ≤ kk → (0 ≤ a ∧ a ≤ 5045040 * p) → 0 ≤ bs S q kk g p a ∧ bs S q kk g p a ≤ 80720640
  | 0, p, a, hp, ha => ⟨ha.1, by rw [bs]; omega⟩
  | g + 1, p, a, hp, ha => by
    rw [bs]
    have h := bi_bd (wt_bd ((g : Int) + 1)) hk (Gw S q ((g : Int) + 1)) p a hp ha
    exact bs_bd S q hk g _ _ h.2.1 h.2.2
theorem BgN_bd (S : Ab) (q : Nat) {kk : Nat} (hk : kk ≤ 16) : 0 ≤ BgN S q kk ∧ BgN S q kk ≤ 80720640 := bs_bd S q hk 3 0 0 (by omega) ⟨by omega, by omega⟩
theorem Gw_le (S : Ab) (q : Nat) (v : Int) : Gw S q v ≤ 24 := cnt_le _ 24
section SH
variable {S : Ab} {M : Mem}
theorem kBs_8 (hK : AbK S M) {q : Nat} (hq : q < 8) {v1 : Int32} {kk : Nat} (hk : v1.toInt = kk) (h16 : kk ≤ 16) : ∀ (g n p : Nat) (v2 : Int64) (v4 v5 : Int32) (a : Int), v5.toInt = g → g ≤ 3 → v4.toInt = p + 1 → p ≤ kk → v2.toInt = a → (0 ≤ a ∧ a ≤ 5045040 * p) → g < n → (f_X3_bestGainParts_8 n M (10 + q) v1 v2 v4 v5).toInt = bs S q kk g p a
  | _, 0, _, _, _, _, _, _, _, _, _, _, _, h => absurd h (by omega)
  | 0, n + 1, p, v2, v4, v5, a, h5, h3, h4, hp, h2, ha, hn => by
    rw [f_X3_bestGainParts_8, if_pos (show v5 < 1 from Int32.lt_iff_toInt_lt.mpr (by show v5.toInt < 1; omega)), h2]; rfl
  | g + 1, n + 1, p, v2, v4, v5, a, h5, h3, h4, hp, h2, ha, hn => by
    rw [f_X3_bestGainParts_8, if_neg (show ¬ v5 < 1 from fun c => by have t : v5.toInt < 1 := i_lt c; omega)]
    simp only [bnd_eq]
    have eg := kGw hK hq v5
    have e5 : v5.toInt = (g : Int) + 1 := by omega
    rw [e5] at eg
    have h24 := Gw_le S q ((g : Int) + 1)
    generalize f_X6_gradedWith M (10 + q) v5 = r4 at *
    have ea : (v4 + r4).toInt = p + 1 + (Gw S q ((g : Int) + 1) : Nat) := by
      rw [i_add (by omega) (by omega), eg, h4]
    obtain ⟨v6, e6, qd⟩ : ∃ v6 : Int32, v5 + (-1) = v6 ∧ v6.toInt = g := ⟨_, rfl, by rw [dec_ok (by omega)]; omega⟩
    rw [e6]
    obtain ⟨y2, y4, E, z2, z4⟩ := kbi (fun y2 y4 => f_X3_bestGainParts_8 n M (10 + q) v1 y2 y4 v6) (M := M) (o := 10 + q) hk h16 (v5 := v5) ⟨by omega, by omega⟩ (Gw S q ((g : Int) + 1)) ((v1.toInt - v4.toInt + 1 : Int).toNat + 1) p (v4 + r4) v4 v2 a h4 ea hp h2 ha (by omega)
    rw [E]
    rw [e5] at z2 z4
    have h := bi_bd (wt_bd ((g : Int) + 1)) h16 (Gw S q ((g : Int) + 1)) p a hp ha
    rw [kBs_8 hK hq hk h16 g n _ y2 y4 v6 _ qd (by omega) z4 h.2.1 z2 h.2.2 (by omega), bs]
theorem kBs (hK : AbK S M) {q : Nat} (hq : q < 8) {v1 : Int32} {kk : Nat} (hk : v1.toInt = kk) (h16 : kk ≤ 16) : (f_X3_bestGainParts M (10 + q) v1).toInt = BgN S q kk := kBs_8 hK hq hk h16 3 4 0 0 1 3 0 rfl (by omega) rfl (by omega) rfl ⟨by omega, by omega⟩ (by omega)
end SH
