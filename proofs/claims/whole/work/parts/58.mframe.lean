/-! 58: what the model's measures leave as it was; what differences leaves behind -/
theorem bnd_eq {α β : Type} (v : α) (f : α → β) : bnd v f = f v := by simp [bnd]
def FrM (M M' : Mem) : Prop := M'.1 = M.1 ∧ (∀ j, j ≠ 0 → M'.2 j = M.2 j) ∧ ∀ k, k ≠ 6 → k ≠ 7 → M'.2 0 k = M.2 0 k
theorem FrM.rf {M : Mem} : FrM M M := ⟨rfl, fun _ _ => rfl, fun _ _ _ => rfl⟩
theorem FrM.tr {M M1 M2 : Mem} (h : FrM M M1) (h2 : FrM M1 M2) : FrM M M2 := ⟨h2.1.trans h.1, fun j hj => (h2.2.1 j hj).trans (h.2.1 j hj), fun k h6 h7 => (h2.2.2 k h6 h7).trans (h.2.2 k h6 h7)⟩
theorem FrM.ul6 {M : Mem} {v : Int64} : FrM M (ul M 0 6 v) := ⟨rfl, fun _ hj => ul_ne hj, fun k h6 _ => by rw [ul_same]; exact if_neg h6⟩
theorem FrM.ul7 {M : Mem} {v : Int64} : FrM M (ul M 0 7 v) := ⟨rfl, fun _ hj => ul_ne hj, fun k _ h7 => by rw [ul_same]; exact if_neg h7⟩
theorem fr_make (M : Mem) (a b : Int64) : FrM M (f_X9_make M a b) := by
  unfold f_X9_make
  simp only [bnd_eq]
  split
  · exact FrM.ul6.tr FrM.ul7
  · exact FrM.ul6.tr FrM.ul7
theorem fr_plus (M : Mem) (a b : Int64) : FrM M (f_X9_plus M a b) := fr_make _ _ _
theorem fr_over (M : Mem) (a : Int64) : FrM M (f_X9_over M a) := by
  unfold f_X9_over
  simp only [bnd_eq]
  split <;> exact fr_make _ _ _
theorem fr_average_12 : ∀ (n : Nat) (M : Mem) (v1 v2 v3 v4 v5 : Int32), FrM M (f_X9_average_12 n M v1 v2 v3 v4 v5)
  | 0, _, _, _, _, _, _ => FrM.rf
  | n + 1, M, v1, v2, v3, v4, v5 => by
    rw [f_X9_average_12]
    simp only [bnd_eq]
    split
    · exact fr_over _ _
    · split
      · exact fr_average_12 n _ _ _ _ _ _
      · exact (fr_plus _ _ _).tr (fr_average_12 n _ _ _ _ _ _)
theorem fr_average (M : Mem) (a b c : Int32) : FrM M (f_X9_average M a b c) := (fr_make M 0 1).tr (fr_average_12 _ _ _ _ _ _ _)
theorem fr_firstGood_17 : ∀ (n : Nat) (M : Mem) (v1 v2 v3 v4 : Int32), FrM M (f_X9_firstGood_17 n M v1 v2 v3 v4)
  | 0, _, _, _, _, _ => FrM.rf
  | n + 1, M, v1, v2, v3, v4 => by
    rw [f_X9_firstGood_17]
    simp only [bnd_eq]
    split
    · exact FrM.rf
    · split
      · exact fr_firstGood_17 n _ _ _ _ _
      · exact (fr_make _ _ _).tr (fr_firstGood_17 n _ _ _ _ _)
theorem fr_firstGood (M : Mem) (a b c : Int32) : FrM M (f_X9_firstGood M a b c) := (fr_make M 0 1).tr (fr_firstGood_17 _ _ _ _ _ _)
theorem fr_gained_9 : ∀ (n : Nat) (M : Mem) (v1 v2 v3 v4 : Int32), FrM M (f_X9_gained_9 n M v1 v2 v3 v4)
  | 0, _, _, _, _, _ => FrM.rf
  | n + 1, M, v1, v2, v3, v4 => by
    rw [f_X9_gained_9]
    simp only [bnd_eq]
    split
    · exact FrM.rf
    · split
      · exact fr_gained_9 n _ _ _ _ _
      · exact (fr_plus _ _ _).tr (fr_gained_9 n _ _ _ _ _)
theorem fr_gained (M : Mem) (a b c : Int32) : FrM M (f_X9_gained M a b c) := (fr_make M 0 1).tr (fr_gained_9 _ _ _ _ _ _)
theorem fr_share_31 (M0 : Mem) (K : Mem → Int32 → Mem) (hK : ∀ M y, FrM M0 M → FrM M0 (K M y)) : ∀ (n : Nat) (M : Mem) (v1 v2 v3 v5 r13 u4 u7 : Int32), FrM M0 M → FrM M0 (f_X9_share_31 K n M v1 v2 v3 v5 r13 u4 u7)
  | 0, _, _, _, _, _, _, _, _, h => h
  | n + 1, M, v1, v2, v3, v5, r13, u4, u7, h => by
    rw [f_X9_share_31]
    simp only [bnd_eq]
    split
    · exact hK _ _ h
    · split
      · exact hK _ _ h
      · exact fr_share_31 M0 K hK n _ _ _ _ _ _ _ _ (h.tr (fr_plus _ _ _))
theorem fr_share_12 : ∀ (n : Nat) (M : Mem) (v1 v2 v3 v4 v5 : Int32), FrM M (f_X9_share_12 n M v1 v2 v3 v4 v5)
  | 0, _, _, _, _, _, _ => FrM.rf
  | n + 1, M, v1, v2, v3, v4, v5 => by
    rw [f_X9_share_12]
    simp only [bnd_eq]
    split
    · split
      · exact fr_make _ _ _
      · exact (fr_gained _ _ _ _).tr (fr_make _ _ _)
    · exact fr_share_31 M _ (fun M' y h => h.tr (fr_share_12 n _ _ _ _ _ _)) _ _ _ _ _ _ _ _ _ FrM.rf
theorem fr_share (M : Mem) (a b c : Int32) : FrM M (f_X9_share M a b c) := (fr_make M 0 1).tr (fr_share_12 _ _ _ _ _ _ _)
theorem fr_preference_40 : ∀ (n : Nat) (M : Mem) (v1 v2 v3 v4 : Int32) (v5 : Int64) (v7 v8 : Int32), FrM M (f_X9_preference_40 n M v1 v2 v3 v4 v5 v7 v8)
  | 0, _, _, _, _, _, _, _, _ => FrM.rf
  | n + 1, M, v1, v2, v3, v4, v5, v7, v8 => by
    rw [f_X9_preference_40]
    simp only [bnd_eq]
    split
    · split <;> exact (fr_make _ _ _).tr (fr_over _ _)
    · repeat' split
      all_goals exact fr_preference_40 n _ _ _ _ _ _ _ _
theorem fr_preference (M : Mem) (a b c : Int32) : FrM M (f_X9_preference M a b c) := by
  unfold f_X9_preference
  simp only [bnd_eq]
  split <;> exact fr_preference_40 _ _ _ _ _ _ _ _ _
theorem fr_reckon (M : Mem) (a b c d : Int32) : FrM M (f_X9_reckon M a b c d) := by
  unfold f_X9_reckon
  simp only [bnd_eq]
  split
  · exact fr_make _ _ _
  · skip
    split
    · exact fr_make _ _ _
    · skip
      split
      · exact fr_average _ _ _ _
      · skip
        split
        · exact fr_firstGood _ _ _ _
        · skip
          split
          · exact fr_gained _ _ _ _
          · skip
            split
            · exact fr_share _ _ _ _
            · skip
              split
              · exact fr_preference _ _ _ _
              · skip
                split
                · exact fr_make _ _ _
                · skip
                  exact fr_make _ _ _
theorem mk_b (M : Mem) (a b : Int64) : ¬ (f_X9_make M a b).2 0 7 = 0 := by
  unfold f_X9_make
  simp only [bnd_eq]
  split
  · rw [ul_same]; exact (show ¬ (1 : Int64) = 0 by decide)
  · rename_i h
    rw [ul_same]
    exact mk_nz a b h
theorem df_ok6 (v1 v2 v3 v4 : Int32) : ∀ (n : Nat) (M : Mem) (v5 v6 : Int32), (8 - v6.toInt : Int).toNat < n → 0 ≤ v6.toInt → v6.toInt ≤ 8 → 0 ≤ v5.toInt ∧ v5.toInt ≤ v6.toInt → (∀ j : Nat, (j : Int) < v5.toInt → ¬ M.2 6 j = 0) →
    (0 ≤ (f_X9_differences_6 n M v1 v2 v3 v4 v5 v6).1.toInt ∧ (f_X9_differences_6 n M v1 v2 v3 v4 v5 v6).1.toInt ≤ 8) ∧ ∀ j : Nat, (j : Int) < (f_X9_differences_6 n M v1 v2 v3 v4 v5 v6).1.toInt → ¬ (f_X9_differences_6 n M v1 v2 v3 v4 v5 v6).2.2 6 j = 0
  | 0, _, _, _, h, _, _, _, _ => absurd h (by omega)
  | n + 1, M, v5, v6, h, h0, h8, h5, hj => by
    rw [f_X9_differences_6]
    simp only [bnd_eq]
    split
    · refine ⟨⟨h5.1, ?_⟩, hj⟩
      show v5.toInt ≤ 8
      omega
    · rename_i c
      have t : v6.toInt < 8 := i_nle c
      have q6 := inc_sp v6
      have q5 := inc_sp v5
      split
      · exact df_ok6 v1 v2 v3 v4 n _ _ _ (by omega) (by omega) (by omega) (by omega) hj
      · split
        · exact df_ok6 v1 v2 v3 v4 n _ _ _ (by omega) (by omega) (by omega) (by omega) hj
        · refine df_ok6 v1 v2 v3 v4 n _ _ _ (by omega) (by omega) (by omega) (by omega) ?_
          intro j hj2
          rw [ul_same]
          unfold vp_updL
          by_cases e : j = v5.toNatClampNeg
          · rw [if_pos e]
            rw [ul_ne (by decide)]
            exact mk_b _ _ _
          · rw [if_neg e, ul_ne (by decide)]
            have e1 := (((fr_reckon M v2 v6 v3 v4).tr (fr_reckon _ v1 v6 v3 v4)).tr (fr_plus _ (-(f_X9_reckon M v2 v6 v3 v4).2 0 6) ((f_X9_reckon M v2 v6 v3 v4).2 0 7))).2.1 6 (by decide)
            rw [e1]
            have e2 := clampI h5.1
            exact hj j (by omega)
theorem df_ok (M : Mem) (a1 a2 a3 a4 : Int32) : (0 ≤ (f_X9_differences M a1 a2 a3 a4).1.toInt ∧ (f_X9_differences M a1 a2 a3 a4).1.toInt ≤ 8) ∧ ∀ j : Nat, (j : Int) < (f_X9_differences M a1 a2 a3 a4).1.toInt → ¬ (f_X9_differences M a1 a2 a3 a4).2.2 6 j = 0 :=
  df_ok6 a1 a2 a3 a4 _ M 0 0 (by decide) (by decide) (by decide) (by decide) (fun j h => absurd h (by show ¬ (j : Int) < 0; omega))
