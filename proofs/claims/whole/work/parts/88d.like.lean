/-! 88d: likeness, the model and both -/
def uc (S : Ab) (r1 r2 q a b : Nat) : Int := if a < b then hc S r1 r2 q a b else 0
def ulk (S : Ab) (r1 r2 q a b : Nat) : Int := if a < b then hl S r1 r2 q a b else 0
theorem mL_42 {S : Ab} {M : Mem} (ho : okA S) (hM : AbM S M) (K : Int32 → Int64 → Int32 × Mem) {r1 r2 q v7 : Int32} (hr1 : 0 ≤ r1.toInt ∧ r1.toInt < 4) (hr2 : 0 ≤ r2.toInt ∧ r2.toInt < 4) (hq : 0 ≤ q.toInt ∧ q.toInt < 8) {a : Nat} (h7 : v7.toInt = a) : ∀ (l n b : Nat) (u4 : Int32) (u5 : Int64) (u8 : Int32), u8.toInt = b → b + l = 24 → a < b → (0 ≤ u4.toInt ∧ u4.toInt + l ≤ 1000) → (-1000 ≤ u5.toInt - l ∧ u5.toInt + l ≤ 1000) → l < n → ∃ (y4 : Int32) (y5 : Int64), f_X9_likeness_42 K n M r1 r2 q v7 u4 u5 u8 = K y4 y5 ∧ y4.toInt + sm (uc S (nn r1) (nn r2) (nn q) a) b = u4.toInt + sm (uc S (nn r1) (nn r2) (nn q) a) 24 ∧ y5.toInt + sm (ulk S (nn r1) (nn r2) (nn q) a) b = u5.toInt + sm (ulk S (nn r1) (nn r2) (nn q) a) 24 := by
  intro l
  induction l with
  | zero =>
    intro n b u4 u5 u8 h8 hb hab b4 b5 hn
    obtain ⟨n, rfl⟩ : ∃ y, n = y + 1 := ⟨n - 1, by omega⟩
    have z : b = 24 := by omega
    subst z
    rw [f_X9_likeness_42, if_pos (show (24 : Int32) ≤ u8 from Int32.le_iff_toInt_le.mpr (by show (24 : Int) ≤ u8.toInt; omega))]
    exact ⟨u4, u5, rfl, rfl, rfl⟩
  | succ l ih =>
    intro n b u4 u5 u8 h8 hb hab b4 b5 hn
    obtain ⟨n, rfl⟩ : ∃ y, n = y + 1 := ⟨n - 1, by omega⟩
    rw [f_X9_likeness_42, if_neg (show ¬ (24 : Int32) ≤ u8 from fun z => by have t : 24 ≤ u8.toInt := i_le z; omega)]
    simp only [bnd_eq]
    have e18 := mSize hM hr1 hq
    have e19 := mSize hM hr2 hq
    have e20 := mFind ho hM hr1 hq v7
    have e21 := mFind ho hM hr1 hq u8
    have e22 := mFind ho hM hr2 hq v7
    have e23 := mFind ho hM hr2 hq u8
    rw [h7] at e20 e22
    rw [h8] at e21 e23
    generalize f_X9_size M r1 q = x18 at *
    generalize f_X9_size M r2 q = x19 at *
    generalize f_X9_find M r1 q v7 = x20 at *
    generalize f_X9_find M r1 q u8 = x21 at *
    generalize f_X9_find M r2 q v7 = x22 at *
    generalize f_X9_find M r2 q u8 = x23 at *
    have g20 : x20.toInt = (p2 S (nn r1) (nn q) a : Nat) := e20
    have g21 : x21.toInt = (p2 S (nn r1) (nn q) b : Nat) := e21
    have g22 : x22.toInt = (p2 S (nn r2) (nn q) a : Nat) := e22
    have g23 : x23.toInt = (p2 S (nn r2) (nn q) b : Nat) := e23
    clear e20 e21 e22 e23
    have q8 := inc_sp u8
    have q4 := inc_sp u4
    have s1 : sm (uc S (nn r1) (nn r2) (nn q) a) (b + 1) = sm (uc S (nn r1) (nn r2) (nn q) a) b + hc S (nn r1) (nn r2) (nn q) a b := by
      show _ + uc S (nn r1) (nn r2) (nn q) a b = _
      unfold uc; rw [if_pos hab]
    have s2 : sm (ulk S (nn r1) (nn r2) (nn q) a) (b + 1) = sm (ulk S (nn r1) (nn r2) (nn q) a) b + hl S (nn r1) (nn r2) (nn q) a b := by
      show _ + ulk S (nn r1) (nn r2) (nn q) a b = _
      unfold ulk; rw [if_pos hab]
    have skip : ¬ (fd S (nn r1) (nn q) a = true ∧ fd S (nn r1) (nn q) b = true ∧ fd S (nn r2) (nn q) a = true ∧ fd S (nn r2) (nn q) b = true) → ∃ (y4 : Int32) (y5 : Int64), f_X9_likeness_42 K n M r1 r2 q v7 u4 u5 (u8 + 1) = K y4 y5 ∧ y4.toInt + sm (uc S (nn r1) (nn r2) (nn q) a) b = u4.toInt + sm (uc S (nn r1) (nn r2) (nn q) a) 24 ∧ y5.toInt + sm (ulk S (nn r1) (nn r2) (nn q) a) b = u5.toInt + sm (ulk S (nn r1) (nn r2) (nn q) a) 24 := by
      intro c
      have z1 : hc S (nn r1) (nn r2) (nn q) a b = 0 := if_neg (fun z => c z.2)
      have z2 : hl S (nn r1) (nn r2) (nn q) a b = 0 := if_neg (fun z => c z.2)
      rw [z1] at s1
      rw [z2] at s2
      obtain ⟨y4, y5, E, e4, e5⟩ := ih n (b + 1) u4 u5 (u8 + 1) (by omega) (by omega) (by omega) (by omega) (by omega) (by omega)
      exact ⟨y4, y5, E, by omega, by omega⟩
    by_cases c1 : x18 ≤ x20
    · have t := i_le c1
      rw [if_pos c1]
      exact skip (fun z => by have y := z.1; unfold fd at y; simp at y; omega)
    · have t1 := i_nle c1
      rw [if_neg c1]
      by_cases c2 : x18 ≤ x21
      · have t := i_le c2
        rw [if_pos c2]
        exact skip (fun z => by have y := z.2.1; unfold fd at y; simp at y; omega)
      · have t2 := i_nle c2
        rw [if_neg c2]
        by_cases c3 : x19 ≤ x22
        · have t := i_le c3
          rw [if_pos c3]
          exact skip (fun z => by have y := z.2.2.1; unfold fd at y; simp at y; omega)
        · have t3 := i_nle c3
          rw [if_neg c3]
          by_cases c4 : x19 ≤ x23
          · have t := i_le c4
            rw [if_pos c4]
            exact skip (fun z => by have y := z.2.2.2; unfold fd at y; simp at y; omega)
          · have t4 := i_nle c4
            rw [if_neg c4]
            have f1 : fd S (nn r1) (nn q) a = true := by unfold fd; simp; omega
            have f2 : fd S (nn r1) (nn q) b = true := by unfold fd; simp; omega
            have f3 : fd S (nn r2) (nn q) a = true := by unfold fd; simp; omega
            have f4 : fd S (nn r2) (nn q) b = true := by unfold fd; simp; omega
            have cc : a ≠ b ∧ fd S (nn r1) (nn q) a = true ∧ fd S (nn r1) (nn q) b = true ∧ fd S (nn r2) (nn q) a = true ∧ fd S (nn r2) (nn q) b = true := ⟨by omega, f1, f2, f3, f4⟩
            have z1 : hc S (nn r1) (nn r2) (nn q) a b = 1 := if_pos cc
            have z2 : hl S (nn r1) (nn r2) (nn q) a b = (if (p2 S (nn r1) (nn q) b ≤ p2 S (nn r1) (nn q) a ↔ p2 S (nn r2) (nn q) b ≤ p2 S (nn r2) (nn q) a) then 1 else -1) := if_pos cc
            rw [z1] at s1
            rw [z2] at s2
            clear z1 z2 skip
            have i1 : (1 : Int64).toInt = 1 := rfl
            have i2 : (-1 : Int64).toInt = -1 := rfl
            have up : (p2 S (nn r1) (nn q) b ≤ p2 S (nn r1) (nn q) a ↔ p2 S (nn r2) (nn q) b ≤ p2 S (nn r2) (nn q) a) → ∃ (y4 : Int32) (y5 : Int64), f_X9_likeness_42 K n M r1 r2 q v7 (u4 + 1) (u5 + 1) (u8 + 1) = K y4 y5 ∧ y4.toInt + sm (uc S (nn r1) (nn r2) (nn q) a) b = u4.toInt + sm (uc S (nn r1) (nn r2) (nn q) a) 24 ∧ y5.toInt + sm (ulk S (nn r1) (nn r2) (nn q) a) b = u5.toInt + sm (ulk S (nn r1) (nn r2) (nn q) a) 24 := by
              intro c
              rw [if_pos c] at s2
              clear c
              have e5 : (u5 + 1).toInt = u5.toInt + 1 := by rw [l_add (by rw [i1]; omega) (by rw [i1]; omega), i1]
              obtain ⟨y4, y5, E, e4, e5⟩ := ih n (b + 1) (u4 + 1) (u5 + 1) (u8 + 1) (by omega) (by omega) (by omega) (by omega) (by omega) (by omega)
              exact ⟨y4, y5, E, by omega, by omega⟩
            have dn : ¬ (p2 S (nn r1) (nn q) b ≤ p2 S (nn r1) (nn q) a ↔ p2 S (nn r2) (nn q) b ≤ p2 S (nn r2) (nn q) a) → ∃ (y4 : Int32) (y5 : Int64), f_X9_likeness_42 K n M r1 r2 q v7 (u4 + 1) (u5 + (-1)) (u8 + 1) = K y4 y5 ∧ y4.toInt + sm (uc S (nn r1) (nn r2) (nn q) a) b = u4.toInt + sm (uc S (nn r1) (nn r2) (nn q) a) 24 ∧ y5.toInt + sm (ulk S (nn r1) (nn r2) (nn q) a) b = u5.toInt + sm (ulk S (nn r1) (nn r2) (nn q) a) 24 := by
              intro c
              rw [if_neg c] at s2
              clear c up
              obtain ⟨w5, ew, e5⟩ : ∃ w5 : Int64, u5 + (-1) = w5 ∧ w5.toInt = u5.toInt - 1 := ⟨_, rfl, by rw [l_add (by rw [i2]; omega) (by rw [i2]; omega), i2]; omega⟩
              rw [ew]
              obtain ⟨y4, y5, E, e4, e5⟩ := ih n (b + 1) (u4 + 1) w5 (u8 + 1) (by omega) (by omega) (by omega) (by omega) (by omega) (by omega)
              exact ⟨y4, y5, E, by omega, by omega⟩
            clear s1 s2
            by_cases d1 : x21 ≤ x20
            · have t5 := i_le d1
              rw [if_pos d1]
              by_cases d2 : x23 ≤ x22
              · have t6 := i_le d2
                rw [if_pos d2]; refine up ?_; clear up dn; omega
              · have t6 := i_nle d2
                rw [if_neg d2]; refine dn ?_; clear up dn; omega
            · have t5 := i_nle d1
              rw [if_neg d1]
              by_cases d2 : x23 ≤ x22
              · have t6 := i_le d2
                rw [if_pos d2]; refine dn ?_; clear up dn; omega
              · have t6 := i_nle d2
                rw [if_neg d2]; refine up ?_; clear up dn; omega
theorem mL_29 {S : Ab} {M : Mem} (ho : okA S) (hM : AbM S M) {r1 r2 q : Int32} (hr1 : 0 ≤ r1.toInt ∧ r1.toInt < 4) (hr2 : 0 ≤ r2.toInt ∧ r2.toInt < 4) (hq : 0 ≤ q.toInt ∧ q.toInt < 8) : ∀ (l n a : Nat) (v4 : Int32) (v5 : Int64) (v7 : Int32), v7.toInt = a → a + l = 24 → v4.toInt = sm (fun a => sm (uc S (nn r1) (nn r2) (nn q) a) 24) a → v5.toInt = sm (fun a => sm (ulk S (nn r1) (nn r2) (nn q) a) 24) a → l < n → ∃ (y4 : Int32) (y5 : Int64), f_X9_likeness_29 n M r1 r2 q v4 v5 v7 = (y4, f_X9_show (f_X9_make M y5 y4.toInt64)) ∧ y4.toInt = upS2 (hc S (nn r1) (nn r2) (nn q)) 24 ∧ y5.toInt = upS2 (hl S (nn r1) (nn r2) (nn q)) 24 ∧ (0 ≤ y4.toInt ∧ -1000 ≤ y5.toInt) := by
  intro l
  have b4 : ∀ m : Nat, 0 ≤ sm (fun a => sm (uc S (nn r1) (nn r2) (nn q) a) 24) m ∧ sm (fun a => sm (uc S (nn r1) (nn r2) (nn q) a) 24) m ≤ m * 24 := fun m => sm_bd (B := 24) m (fun x hx => by
    have := sm_bd (w := uc S (nn r1) (nn r2) (nn q) x) (B := 1) 24 (fun i _ => by
      unfold uc
      split
      · exact (hl_bd S _ _ _ _ _).2
      · omega)
    omega)
  have b5 : ∀ m : Nat, -((m : Int) * 24) ≤ sm (fun a => sm (ulk S (nn r1) (nn r2) (nn q) a) 24) m ∧ sm (fun a => sm (ulk S (nn r1) (nn r2) (nn q) a) 24) m ≤ m * 24 := by
    intro m
    induction m with
    | zero => rw [sm]; simp
    | succ m ihm =>
      have b := sm_pm (w := ulk S (nn r1) (nn r2) (nn q) m) 24 (fun i _ => by
        unfold ulk
        split
        · exact (hl_bd S _ _ _ _ _).1
        · omega)
      have e : sm (fun a => sm (ulk S (nn r1) (nn r2) (nn q) a) 24) (m + 1) = sm (fun a => sm (ulk S (nn r1) (nn r2) (nn q) a) 24) m + sm (ulk S (nn r1) (nn r2) (nn q) m) 24 := rfl
      rw [e]
      omega
  induction l with
  | zero =>
    intro n a v4 v5 v7 h7 ha h4 h5 hn
    obtain ⟨n, rfl⟩ : ∃ y, n = y + 1 := ⟨n - 1, by omega⟩
    have z : a = 24 := by omega
    subst z
    have c4 := b4 24
    have c5 := b5 24
    rw [f_X9_likeness_29, if_pos (show (24 : Int32) ≤ v7 from Int32.le_iff_toInt_le.mpr (by show (24 : Int) ≤ v7.toInt; omega))]
    simp only [bnd_eq]
    exact ⟨v4, v5, rfl, h4, h5, by omega, by omega⟩
  | succ l ih =>
    intro n a v4 v5 v7 h7 ha h4 h5 hn
    obtain ⟨n, rfl⟩ : ∃ y, n = y + 1 := ⟨n - 1, by omega⟩
    rw [f_X9_likeness_29, if_neg (show ¬ (24 : Int32) ≤ v7 from fun z => by have t : 24 ≤ v7.toInt := i_le z; omega)]
    simp only [bnd_eq]
    have c4 := b4 a
    have c5 := b5 a
    have q7 := inc_sp v7
    obtain ⟨y4, y5, E, e4, e5⟩ := mL_42 ho hM (fun y4 y5 => f_X9_likeness_29 n M r1 r2 q y4 y5 (v7 + 1)) hr1 hr2 hq h7 l ((24 - (v7 + 1).toInt : Int).toNat + 1) (a + 1) v4 v5 (v7 + 1) (by omega) (by omega) (by omega) (by omega) (by omega) (by omega)
    rw [E]
    have z4 : sm (uc S (nn r1) (nn r2) (nn q) a) (a + 1) = 0 := sm_z _ (fun i hi => if_neg (by omega))
    have z5 : sm (ulk S (nn r1) (nn r2) (nn q) a) (a + 1) = 0 := sm_z _ (fun i hi => if_neg (by omega))
    have s4 : sm (fun a => sm (uc S (nn r1) (nn r2) (nn q) a) 24) (a + 1) = sm (fun a => sm (uc S (nn r1) (nn r2) (nn q) a) 24) a + sm (uc S (nn r1) (nn r2) (nn q) a) 24 := rfl
    have s5 : sm (fun a => sm (ulk S (nn r1) (nn r2) (nn q) a) 24) (a + 1) = sm (fun a => sm (ulk S (nn r1) (nn r2) (nn q) a) 24) a + sm (ulk S (nn r1) (nn r2) (nn q) a) 24 := rfl
    exact ih n (a + 1) y4 y5 (v7 + 1) (by omega) (by omega) (by omega) (by omega) (by omega)
theorem low1 (h : Nat → Nat → Int) (n : Nat) : lowS h (max n 1) = lowS h n := by
  cases n with
  | zero => rfl
  | succ n => rw [Nat.max_eq_left (by omega)]
theorem eq_likeness {M1 M2 : Mem} (a b c : Int32) (h : Rel M1 M2) : (f_X8_likeness M1 a b c).1 = (f_X9_likeness M2 a b c).1 ∧ Rel (f_X8_likeness M1 a b c).2 (f_X9_likeness M2 a b c).2 := by
  obtain ⟨S, ho, hK, hM, hB⟩ := id h
  unfold f_X8_likeness f_X9_likeness
  simp only [bnd_eq]
  by_cases ha : (0 ≤ a.toInt ∧ a.toInt < 4) ∧ (0 ≤ c.toInt ∧ c.toInt < 8)
  · obtain ⟨hr1, hq⟩ := ha
    cases ht : S.2.2.1 (nn a) (nn c)
    · rw [rO_f hK hr1 hq ht, mRow_f hM hr1 hq ht, oc_none, if_pos rfl]
      cases f_X8_rowOf M1 b c <;> exact ⟨rfl, h⟩
    · rw [rO_t hK hr1 hq ht, mRow_t hM hr1 hq ht, oc_some, if_neg (show ¬ (1 : Int32) = 0 by decide)]
      by_cases hb : 0 ≤ b.toInt ∧ b.toInt < 4
      · cases ht2 : S.2.2.1 (nn b) (nn c)
        · rw [rO_f hK hb hq ht2, mRow_f hM hb hq ht2, oc_none, if_pos rfl]
          exact ⟨rfl, h⟩
        · rw [rO_t hK hb hq ht2, mRow_t hM hb hq ht2, oc_some, if_neg (show ¬ (1 : Int32) = 0 by decide)]
          have hrn1 : nn a < 4 := nn_lt hr1.1 (by omega)
          have hrn2 : nn b < 4 := nn_lt hb.1 (by omega)
          have hqn : nn c < 8 := nn_lt hq.1 (by omega)
          have es := kSize hK hrn1 hqn
          have es' : (M1.1 (34 + 4 * nn c + nn a) 1).toInt = S.2.1 (nn a) (nn c) := es
          have h16 := ho.2.1 (nn a) (nn c)
          obtain ⟨y3, y4, E, e3, e4⟩ := kL_8 ho hK (fi := 2) (r1 := nn a) (r2 := nn b) hrn1 hrn2 hqn (max (S.2.1 (nn a) (nn c)) 1 - 1) (((M1.1 (34 + 4 * nn c + nn a) 1).toInt - 2 + 1 : Int).toNat + 1) 1 0 0 2 rfl (by omega) (by omega) rfl rfl (by omega)
          have e7 : f_X5_putLikeness M1 2 (34 + 4 * nn c + nn a) (34 + 4 * nn c + nn b) = (y3, f_X1_become M1 2 y4.toInt64 y3.toInt64) := E
          obtain ⟨x4, x5, F, g4, g5, g0⟩ := mL_29 ho hM hr1 hb hq 24 25 0 0 0 0 rfl (by omega) rfl rfl (by omega)
          rw [e7, F]
          rw [low1] at e3 e4
          have k3 : y3.toInt = x4.toInt := by rw [e3, g4, hc_eq ho]
          have k4 : y4.toInt = x5.toInt := by rw [e4, g5, hl_eq ho]
          refine ⟨i_ext k3, ?_⟩
          exact fin_board ho hK hM (V := rd x5.toInt x4.toInt64.toInt) ⟨y4.toInt64, y3.toInt64, rfl, by rw [i2l_ti, k4]; omega, by rw [i2l_ti, i2l_ti, i2l_ti, k3, k4]⟩ (mkG (by omega) (by rw [i2l_ti]; omega)) (fr_make _ _ _).1
      · rw [rO_out (fun z => hb z.1), mRow_out (fun z => hb z.1), oc_none, if_pos rfl]
        exact ⟨rfl, h⟩
  · rw [rO_out ha, mRow_out ha, oc_none, if_pos rfl]
    cases f_X8_rowOf M1 b c <;> exact ⟨rfl, h⟩
