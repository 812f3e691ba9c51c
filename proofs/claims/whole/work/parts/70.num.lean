/-! 70: numbers: Euclid's way on both sides, fractions in least numbers -/
theorem l_div {x y : Int64} (hy : 1 ≤ y.toInt) : (x / y).toInt = x.toInt.tdiv y.toInt := by
  rw [Int64.toInt_div]
  have hr := l_rg x
  have h1 : (x.toInt.tdiv y.toInt).natAbs ≤ x.toInt.natAbs := by
    rw [Int.natAbs_tdiv]
    exact Nat.div_le_self _ _
  rcases Int.lt_or_le x.toInt 0 with q | q
  · have h2 := Int.tdiv_nonneg (a := -x.toInt) (b := y.toInt) (by omega) (by omega)
    rw [Int.neg_tdiv] at h2
    exact Int.bmod_eq_of_le (by simp; omega) (by simp; omega)
  · have h2 : 0 ≤ x.toInt.tdiv y.toInt := Int.tdiv_nonneg q (by omega)
    exact Int.bmod_eq_of_le (by simp; omega) (by simp; omega)
theorem l_neg {x : Int64} (h : -9223372036854775808 < x.toInt) : (-x).toInt = -x.toInt := by
  rw [Int64.toInt_neg]
  have hr := l_rg x
  exact Int.bmod_eq_of_le (by simp; omega) (by simp; omega)
theorem l_ext {x y : Int64} (h : x.toInt = y.toInt) : x = y := Int64.toInt_inj.mp h
theorem i_ext {x y : Int32} (h : x.toInt = y.toInt) : x = y := Int32.toInt_inj.mp h
theorem gcd_step (x y : Int) (hx : 0 ≤ x) (hy : 0 ≤ y) : Int.gcd y (x.tmod y) = Int.gcd x y := by
  obtain ⟨a, rfl⟩ := Int.eq_ofNat_of_zero_le hx
  obtain ⟨b, rfl⟩ := Int.eq_ofNat_of_zero_le hy
  rw [← Int.ofNat_tmod]
  show Nat.gcd b (a % b) = Nat.gcd a b
  rw [Nat.gcd_comm a b, Nat.gcd_comm b (a % b), ← Nat.gcd_rec]
theorem cm17 : ∀ (n : Nat) (v0 v2 x y : Int64), 0 ≤ x.toInt → 0 ≤ y.toInt → y.toInt.toNat < n → (f_X9_common_17 n v0 v2 x y).toInt = (Int.gcd x.toInt y.toInt : Int)
  | 0, _, _, _, _, _, _, h => absurd h (by omega)
  | n + 1, v0, v2, x, y, hx, hy, h => by
    rw [f_X9_common_17]
    split
    · rename_i e
      rw [e]
      show x.toInt = ((Int.gcd x.toInt 0 : Nat) : Int)
      rw [Int.gcd_zero_right]
      omega
    · rename_i e
      rw [bnd_eq]
      have e1 := rem_ti x y e
      have e2 : 0 ≤ x.toInt.tmod y.toInt := Int.tmod_nonneg _ hx
      have e3 := rem_lt x y e
      rw [cm17 n v0 v2 y (x - x / y * y) hy (by rw [e1]; exact e2) (by rw [e1] at e3 ⊢; omega), e1, gcd_step _ _ hx hy]
theorem cmG {a b : Int64} (ha : -9223372036854775808 < a.toInt) (hb : 0 ≤ b.toInt) : (f_X9_common a b).toInt = (Int.gcd a.toInt b.toInt : Int) := by
  unfold f_X9_common
  simp only [bnd_eq]
  split
  · rename_i c
    have t : 0 ≤ a.toInt := l_le c
    exact cm17 _ _ _ _ _ t hb (by omega)
  · rename_i c
    have t : a.toInt < 0 := l_nle c
    have e := l_neg ha
    rw [cm17 _ _ _ _ _ (by rw [e]; omega) hb (by omega), e, Int.neg_gcd]

/-- Fibonacci's numbers, two at a time -/
def fbp : Nat → Nat × Nat
  | 0 => (0, 1)
  | n + 1 => ((fbp n).2, (fbp n).1 + (fbp n).2)
def fbn (n : Nat) : Nat := (fbp n).1
theorem fbn_s (n : Nat) : fbn (n + 2) = fbn n + fbn (n + 1) := rfl
theorem fbn_93 : 9223372036854775808 ≤ fbn 93 := by decide +kernel
/-- Euclid's way ends within n divisions -/
def eu : Nat → Nat → Nat → Prop
  | 0, _, b => b = 0
  | n + 1, a, b => b = 0 ∨ eu n b (a % b)
theorem eu_fib : ∀ (n a b : Nat), b < a → (a < fbn (n + 2) ∨ b < fbn (n + 1)) → eu n a b
  | 0, a, b, h, h2 => by
    show b = 0
    have e1 : fbn 2 = 1 := rfl
    have e2 : fbn 1 = 1 := rfl
    rcases h2 with q | q
    · have : fbn (0 + 2) = 1 := rfl
      omega
    · have : fbn (0 + 1) = 1 := rfl
      omega
  | n + 1, a, b, h, h2 => by
    show b = 0 ∨ eu n b (a % b)
    rcases Nat.eq_zero_or_pos b with e | e
    · exact Or.inl e
    · right
      have hm : a % b < b := Nat.mod_lt _ e
      rcases Nat.lt_or_ge b (fbn (n + 2)) with q | q
      · exact eu_fib n b (a % b) hm (Or.inl q)
      · refine eu_fib n b (a % b) hm (Or.inr ?_)
        have e3 := fbn_s (n + 1)
        have e4 : a % b ≤ a - b := by
          rw [Nat.mod_eq_sub_mod (by omega)]
          exact Nat.mod_le _ _
        have e5 : fbn (n + 1 + 1) = fbn (n + 2) := rfl
        have e6 : fbn (n + 1 + 2) = fbn (n + 3) := rfl
        rcases h2 with z | z
        · omega
        · omega
theorem eu_mono : ∀ (n a b : Nat), eu n a b → eu (n + 1) a b
  | 0, _, _, h => Or.inl h
  | n + 1, _, _, h => h.elim Or.inl (fun z => Or.inr (eu_mono n _ _ z))
theorem eu_long (a b : Nat) (hb : b < 9223372036854775808) : eu 93 a b := by
  rcases Nat.lt_or_ge b a with q | q
  · have h : b < fbn 93 := Nat.lt_of_lt_of_le hb fbn_93
    have h2 := eu_fib 92 a b q (Or.inr h)
    exact eu_mono 92 a b h2
  · show b = 0 ∨ eu 92 b (a % b)
    rcases Nat.eq_zero_or_pos b with e | e
    · exact Or.inl e
    · right
      have h : b < fbn 93 := Nat.lt_of_lt_of_le hb fbn_93
      exact eu_fib 92 b (a % b) (Nat.mod_lt _ e) (Or.inr (Nat.lt_trans (Nat.mod_lt _ e) h))
theorem cd15 : ∀ (k n : Nat) (v0 v2 x y : Int64) (i : Int32), k ≤ n → 0 ≤ i.toInt → i.toInt + k ≤ 100 → 0 ≤ x.toInt → 0 ≤ y.toInt → eu k x.toInt.toNat y.toInt.toNat → (f_X8_commonDivisor_15 (n + 1) v0 v2 x y i).toInt = max (Int.gcd x.toInt y.toInt : Int) 1 := by
  have fin : ∀ (x : Int64), 0 ≤ x.toInt → (if 1 < x then x else 1).toInt = max ((Int.gcd x.toInt 0 : Nat) : Int) 1 := by
    intro x hx
    rw [Int.gcd_zero_right]
    split
    · rename_i c
      have t : 1 < x.toInt := l_lt c
      omega
    · rename_i c
      have t : x.toInt ≤ 1 := l_nlt c
      show (1 : Int) = _
      omega
  intro k
  induction k with
  | zero =>
    intro n v0 v2 x y i _ _ _ hx hy he
    have hy0 : y.toInt.toNat = 0 := he
    have e0 : y = 0 := l_ext (by show y.toInt = 0; omega)
    rw [f_X8_commonDivisor_15]
    simp only [bnd_eq]
    subst e0
    split
    · exact fin x hx
    · rw [if_pos rfl]; exact fin x hx
  | succ k ih =>
    intro n v0 v2 x y i hn h0 h1 hx hy he
    rw [f_X8_commonDivisor_15]
    simp only [bnd_eq]
    have c : ¬ (100 : Int32) ≤ i := fun z => by have t : 100 ≤ i.toInt := i_le z; omega
    rw [if_neg c]
    split
    · rename_i e; subst e; exact fin x hx
    · rename_i e
      have e1 := rem_ti x y e
      have e2 : 0 ≤ x.toInt.tmod y.toInt := Int.tmod_nonneg _ hx
      have hy0 : ¬ y.toInt = 0 := fun z => e (l_ext z)
      obtain ⟨n', rfl⟩ : ∃ n', n = n' + 1 := ⟨n - 1, by omega⟩
      have q := inc_sp i
      rw [ih n' v0 v2 y (x - x / y * y) (i + 1) (by omega) (by omega) (by omega) hy (by rw [e1]; exact e2) ?_, e1, gcd_step _ _ hx hy]
      rcases he with z | z
      · exact absurd z (by omega)
      · rw [e1]
        have e3 : (x.toInt.tmod y.toInt).toNat = x.toInt.toNat % y.toInt.toNat := by
          obtain ⟨a, ha⟩ := Int.eq_ofNat_of_zero_le hx
          obtain ⟨b, hb⟩ := Int.eq_ofNat_of_zero_le hy
          rw [ha, hb, ← Int.ofNat_tmod]
          rfl
        rw [e3]
        exact z
theorem l_abs {x : Int64} (h : -9223372036854775808 < x.toInt) : (if 0 < x then x else -x).toInt = x.toInt.natAbs := by
  split
  · rename_i c
    have t : 0 < x.toInt := l_lt c
    omega
  · rename_i c
    have t : x.toInt ≤ 0 := l_nlt c
    rw [l_neg h]
    omega
theorem cdG {a b : Int64} (ha : -9223372036854775808 < a.toInt) (hb : -9223372036854775808 < b.toInt) : (f_X8_commonDivisor a b).toInt = max (Int.gcd a.toInt b.toInt : Int) 1 := by
  unfold f_X8_commonDivisor
  simp only [bnd_eq]
  have e1 := l_abs ha
  have e2 := l_abs hb
  have r2 := l_rg b
  rw [cd15 93 100 a b _ _ 0 (by decide) (by decide) (by decide) (by rw [e1]; omega) (by rw [e2]; omega) (eu_long _ _ (by rw [e2]; omega)), e1, e2]
  show max (((Int.gcd (a.toInt.natAbs : Int) (b.toInt.natAbs : Int) : Nat)) : Int) 1 = _
  rfl
