/-! 88b: pool -/
def af (S : Ab) (q k : Nat) (v : Int) : Nat → Bool
  | 0 => false
  | r + 1 => af S q k v r || decide (p2 S r q v < min (S.2.1 r q) k)
section PO
variable {S : Ab} {M : Mem}
theorem af_up (S : Ab) (q k : Nat) (v : Int) : ∀ (j r : Nat), af S q k v r = true → af S q k v (r + j) = true
  | 0, _, h => h
  | j + 1, r, h => by
    show (af S q k v (r + j) || _) = true
    rw [af_up S q k v j r h]; rfl
theorem kAf_2 (ho : okA S) (hK : AbK S M) {q : Nat} (hq : q < 8) {k a : Int32} {kk : Nat} (hk : k.toInt = kk) : ∀ (j n r : Nat) (v : Int32), v.toInt = r → r + j = 4 → af S q kk a.toInt r = false → j < n → f_X6_isAmongFirst_2 n M (10 + q) k a v = if af S q kk a.toInt 4 then 1 else 0 := by
  intro j
  induction j with
  | zero =>
    intro n r v hv hr hf hn
    obtain ⟨n, rfl⟩ : ∃ y, n = y + 1 := ⟨n - 1, by omega⟩
    have z : r = 4 := by omega
    subst z
    rw [f_X6_isAmongFirst_2, if_pos (show (4 : Int32) ≤ v from Int32.le_iff_toInt_le.mpr (by show (4 : Int) ≤ v.toInt; omega)), hf]
    rfl
  | succ j ih =>
    intro n r v hv hr hf hn
    obtain ⟨n, rfl⟩ : ∃ y, n = y + 1 := ⟨n - 1, by omega⟩
    rw [f_X6_isAmongFirst_2, if_neg (show ¬ (4 : Int32) ≤ v from fun z => by have t : 4 ≤ v.toInt := i_le z; omega)]
    simp only [bnd_eq]
    have ec : v.toNatClampNeg = r := by have := clampI (x := v) (by omega); omega
    have qv := inc_sp v
    rw [ec, show 34 + 4 * (10 + q + 16 - 26) + r = 34 + 4 * q + r by omega, kHas ho hK (show r < 4 by omega) hq hk]
    by_cases c : p2 S r q a.toInt < min (S.2.1 r q) kk
    · have hs : af S q kk a.toInt (r + 1) = true := by
        show (af S q kk a.toInt r || decide (p2 S r q a.toInt < min (S.2.1 r q) kk)) = true
        rw [decide_eq_true c]; simp
      have h4 := af_up S q kk a.toInt j (r + 1) hs
      rw [show r + 1 + j = 4 by omega] at h4
      rw [if_pos c, if_neg (show ¬ (1 : Int32) = 0 by decide), h4]
      rfl
    · have hs : af S q kk a.toInt (r + 1) = false := by
        show (af S q kk a.toInt r || decide (p2 S r q a.toInt < min (S.2.1 r q) kk)) = false
        rw [decide_eq_false c, hf]; rfl
      rw [if_neg c, if_pos rfl]
      exact ih n (r + 1) (v + 1) (by omega) (by omega) hs (by omega)
theorem mAf_42 (ho : okA S) (hM : AbM S M) (K : Int32 → Int32) {q k v3 v4 a : Int32} (hq : 0 ≤ q.toInt ∧ q.toInt < 8) {kk : Nat} (hk : k.toInt = kk) : ∀ (j n r : Nat) (u v : Int32), v.toInt = r → r + j = 4 → u = (if af S (nn q) kk a.toInt r then 1 else 0) → j < n → f_X9_pool_42 K n M q k v3 v4 a u v = K (if af S (nn q) kk a.toInt 4 then 1 else 0) := by
  intro j
  induction j with
  | zero =>
    intro n r u v hv hr hu hn
    obtain ⟨n, rfl⟩ : ∃ y, n = y + 1 := ⟨n - 1, by omega⟩
    have z : r = 4 := by omega
    subst z
    rw [f_X9_pool_42, if_pos (show (4 : Int32) ≤ v from Int32.le_iff_toInt_le.mpr (by show (4 : Int) ≤ v.toInt; omega)), hu]
  | succ j ih =>
    intro n r u v hv hr hu hn
    obtain ⟨n, rfl⟩ : ∃ y, n = y + 1 := ⟨n - 1, by omega⟩
    rw [f_X9_pool_42, if_neg (show ¬ (4 : Int32) ≤ v from fun z => by have t : 4 ≤ v.toInt := i_le z; omega)]
    simp only [bnd_eq]
    have qv := inc_sp v
    have hr4 : 0 ≤ v.toInt ∧ v.toInt < 4 := ⟨by omega, by omega⟩
    have er : nn v = r := by have := nn_ti (a := v) (by omega); omega
    have hqn : nn q < 8 := nn_lt hq.1 (by omega)
    have e3 := hM.2.2.1 r (nn q) (by omega) hqn
    have e6 : (8 * v + q).toNatClampNeg = 8 * r + nn q := by have z := ixN8 hr4 hq; rw [er] at z; exact z
    have ef := mFirst hM hr4 hq hk
    have em := mFind ho hM hr4 hq a
    rw [er] at ef em
    have ep : fnd (S.2.2.2 r (nn q)) a.toInt 0 (S.2.1 r (nn q)) = p2 S r (nn q) a.toInt := rfl
    rw [ep] at em
    have es : af S (nn q) kk a.toInt (r + 1) = (af S (nn q) kk a.toInt r || decide (p2 S r (nn q) a.toInt < min (S.2.1 r (nn q)) kk)) := rfl
    cases hf : af S (nn q) kk a.toInt r
    · rw [hf] at hu es
      have u0 : u = 0 := hu
      rw [if_pos u0, e6, e3]
      cases ht : S.2.2.1 r (nn q)
      · rw [if_pos (show (if false = true then (1 : Int32) else 0) = 0 from rfl)]
        have h0 := ho.2.2.2.2 r (nn q) ht
        exact ih n (r + 1) 0 (v + 1) (by omega) (by omega) (by rw [es, h0, decide_eq_false (by omega)]; rfl) (by omega)
      · rw [if_neg (show ¬ (if true = true then (1 : Int32) else 0) = 0 by decide)]
        generalize f_X9_first M v q k = f1 at *
        generalize f_X9_find M v q a = f2 at *
        by_cases c : f1 ≤ f2
        · have t := i_le c
          rw [if_pos c]
          exact ih n (r + 1) 0 (v + 1) (by omega) (by omega) (by rw [es, decide_eq_false (by omega)]; rfl) (by omega)
        · have t := i_nle c
          rw [if_neg c]
          exact ih n (r + 1) 1 (v + 1) (by omega) (by omega) (by rw [es, decide_eq_true (by omega)]; rfl) (by omega)
    · rw [hf] at hu es
      have u0 : ¬ u = 0 := by rw [hu]; decide
      rw [if_neg u0]
      exact ih n (r + 1) 1 (v + 1) (by omega) (by omega) (by rw [es]; rfl) (by omega)
end PO
theorem po2 {S : Ab} {M1 M2 : Mem} (ho : okA S) (hK : AbK S M1) (hM : AbM S M2) {q k a3 : Int32} (hq : 0 ≤ q.toInt ∧ q.toInt < 8) {kk : Nat} (hk : k.toInt = kk) (h3 : 0 ≤ a3.toInt) : ∀ (j n i c : Nat) (v v3 v4 : Int32), v.toInt = i → i + j = 24 → v3.toInt = c → c ≤ i → v4.toInt + c = a3.toInt → 0 ≤ v4.toInt → j < n → (if f_X6_pooled_5 n M1 (10 + nn q) k a3 v3 v = -1 then (-3) else f_X6_pooled_5 n M1 (10 + nn q) k a3 v3 v) = f_X9_pool_25 n M2 q k a3 v4 v := by
  intro j
  induction j with
  | zero =>
    intro n i c v v3 v4 hv hi hc hci h4 h40 hn
    obtain ⟨n, rfl⟩ : ∃ y, n = y + 1 := ⟨n - 1, by omega⟩
    rw [f_X6_pooled_5, f_X9_pool_25, if_pos (show (24 : Int32) ≤ v from Int32.le_iff_toInt_le.mpr (by show (24 : Int) ≤ v.toInt; omega)), if_pos (show (24 : Int32) ≤ v from Int32.le_iff_toInt_le.mpr (by show (24 : Int) ≤ v.toInt; omega)), if_pos rfl]
  | succ j ih =>
    intro n i c v v3 v4 hv hi hc hci h4 h40 hn
    obtain ⟨n, rfl⟩ : ∃ y, n = y + 1 := ⟨n - 1, by omega⟩
    have n24 : ¬ (24 : Int32) ≤ v := fun z => by have t : 24 ≤ v.toInt := i_le z; omega
    have qv := inc_sp v
    have q3 := inc_sp v3
    have hqn : nn q < 8 := nn_lt hq.1 (by omega)
    rw [f_X6_pooled_5, f_X9_pool_25, if_neg n24, if_neg n24, if_neg (show ¬ a3 < 0 from fun z => by have t : a3.toInt < 0 := i_lt z; omega)]
    simp only [bnd_eq]
    have ec : v.toNatClampNeg = i := by have := clampI (x := v) (by omega); omega
    have eK := kAf_2 ho hK hqn (a := v) hk 4 5 0 0 rfl (by omega) rfl (by omega)
    have eK' : f_X6_isAmongFirst M1 (10 + nn q) k v = if af S (nn q) kk v.toInt 4 then 1 else 0 := eK
    rw [mAf_42 ho hM _ (a := v) hq hk 4 5 0 0 0 rfl (by omega) rfl (by omega), eK', ec]
    have eg := hK.1 (nn q) i hqn (by omega)
    have mg := mGrade ho hM hq (d := v) ⟨by omega, by omega⟩
    have ei : nn v = i := ec
    rw [ei] at mg
    rw [show 10 + nn q + 8 = 18 + nn q by omega]
    have hg := ho.1 (nn q) i
    have em1 : (-1 : Int32).toInt = -1 := rfl
    have next := ih n (i + 1) c (v + 1) v3 v4 (by omega) (by omega) hc (by omega) h4 h40 (by omega)
    show (if (if M1.1 (18 + nn q) i = -1 then (if (if af S (nn q) kk v.toInt 4 = true then (1 : Int32) else 0) = 0 then f_X6_pooled_5 n M1 (10 + nn q) k a3 v3 (v + 1) else (if v3 = a3 then v else f_X6_pooled_5 n M1 (10 + nn q) k a3 (v3 + 1) (v + 1))) else f_X6_pooled_5 n M1 (10 + nn q) k a3 v3 (v + 1)) = -1 then (-3 : Int32) else (if M1.1 (18 + nn q) i = -1 then (if (if af S (nn q) kk v.toInt 4 = true then (1 : Int32) else 0) = 0 then f_X6_pooled_5 n M1 (10 + nn q) k a3 v3 (v + 1) else (if v3 = a3 then v else f_X6_pooled_5 n M1 (10 + nn q) k a3 (v3 + 1) (v + 1))) else f_X6_pooled_5 n M1 (10 + nn q) k a3 v3 (v + 1))) = if (if af S (nn q) kk v.toInt 4 = true then (1 : Int32) else 0) = 0 then f_X9_pool_25 n M2 q k a3 v4 (v + 1) else (if (0 : Int32) ≤ f_X9_gradeOf M2 q v then f_X9_pool_25 n M2 q k a3 v4 (v + 1) else (if v4 = 0 then v else f_X9_pool_25 n M2 q k a3 (v4 + (-1)) (v + 1)))
    cases hf : af S (nn q) kk v.toInt 4
    · rw [if_pos (show (if false = true then (1 : Int32) else 0) = 0 from rfl), if_pos (show (if false = true then (1 : Int32) else 0) = 0 from rfl)]
      by_cases c1 : M1.1 (18 + nn q) i = -1
      · rw [if_pos c1]; exact next
      · rw [if_neg c1]; exact next
    · rw [if_neg (show ¬ (if true = true then (1 : Int32) else 0) = 0 by decide), if_neg (show ¬ (if true = true then (1 : Int32) else 0) = 0 by decide)]
      by_cases c1 : M1.1 (18 + nn q) i = -1
      · rw [c1, em1] at eg
        rw [if_pos c1, if_neg (show ¬ (0 : Int32) ≤ f_X9_gradeOf M2 q v from fun z => by have t : 0 ≤ (f_X9_gradeOf M2 q v).toInt := i_le z; omega)]
        by_cases c2 : v3 = a3
        · have e4 : v4 = 0 := i_ext (by show v4.toInt = 0; rw [c2] at hc; omega)
          rw [if_pos c2, if_pos e4, if_neg (show ¬ v = -1 from fun z => by rw [z, em1] at hv; omega)]
        · have e4 : ¬ v4 = 0 := fun z => c2 (i_ext (by rw [z] at h4; have : (0 : Int32).toInt = 0 := rfl; omega))
          rw [if_neg c2, if_neg e4]
          have h41 : 1 ≤ v4.toInt := by
            have : ¬ v4.toInt = 0 := fun y => e4 (i_ext y)
            omega
          obtain ⟨v6, e6, qd⟩ : ∃ v6 : Int32, v4 + (-1) = v6 ∧ v6.toInt = v4.toInt - 1 := ⟨_, rfl, dec_ok (by omega)⟩
          rw [e6]
          exact ih n (i + 1) (c + 1) (v + 1) (v3 + 1) v6 (by omega) (by omega) (by omega) (by omega) (by omega) (by omega) (by omega)
      · have e5 : S.1 (nn q) i ≠ -1 := fun z => c1 (i_ext (by rw [eg, z, em1]))
        rw [if_neg c1, if_pos (show (0 : Int32) ≤ f_X9_gradeOf M2 q v from Int32.le_iff_toInt_le.mpr (by show (0 : Int) ≤ _; omega))]
        exact next
theorem po3 {M1 : Mem} {q : Nat} {k a3 : Int32} (h3 : a3.toInt < 0) : ∀ (j n i c : Nat) (v v3 : Int32), v.toInt = i → i + j = 24 → v3.toInt = c → c ≤ i → j < n → f_X6_pooled_5 n M1 (10 + q) k a3 v3 v = -1 := by
  intro j
  induction j with
  | zero =>
    intro n i c v v3 hv hi hc hci hn
    obtain ⟨n, rfl⟩ : ∃ y, n = y + 1 := ⟨n - 1, by omega⟩
    rw [f_X6_pooled_5, if_pos (show (24 : Int32) ≤ v from Int32.le_iff_toInt_le.mpr (by show (24 : Int) ≤ v.toInt; omega))]
  | succ j ih =>
    intro n i c v v3 hv hi hc hci hn
    obtain ⟨n, rfl⟩ : ∃ y, n = y + 1 := ⟨n - 1, by omega⟩
    have qv := inc_sp v
    have q3 := inc_sp v3
    rw [f_X6_pooled_5, if_neg (show ¬ (24 : Int32) ≤ v from fun z => by have t : 24 ≤ v.toInt := i_le z; omega)]
    simp only [bnd_eq]
    have next := ih n (i + 1) c (v + 1) v3 (by omega) (by omega) hc (by omega) (by omega)
    split
    · split
      · exact next
      · rw [if_neg (show ¬ v3 = a3 from fun z => by rw [z] at hc; omega)]
        exact ih n (i + 1) (c + 1) (v + 1) (v3 + 1) (by omega) (by omega) (by omega) (by omega) (by omega)
    · exact next
theorem eq_pool {M1 M2 : Mem} (a b c : Int32) (h : Rel M1 M2) : f_X8_pool M1 a b c = f_X9_pool M2 a b c := by
  obtain ⟨S, ho, hK, hM, hB⟩ := id h
  unfold f_X8_pool f_X9_pool
  simp only [bnd_eq]
  rw [mQ]
  by_cases hq : 0 ≤ a.toInt ∧ a.toInt < 8
  · rw [qO_in hq, oc_some, if_pos hq, if_neg (show ¬ (1 : Int32) = 0 by decide), isDp, isDp2]
    by_cases hd : 1 ≤ b.toInt ∧ b.toInt ≤ 16
    · rw [if_pos hd, if_neg (show ¬ (1 : Int32) = 0 by decide), if_neg (show ¬ (1 : Int32) = 0 by decide)]
      have hk : b.toInt = (nn b : Nat) := (nn_ti (by omega)).symm
      have ep : f_X6_pooled M1 (10 + nn a) b c = f_X6_pooled_5 25 M1 (10 + nn a) b c 0 0 := rfl
      rw [ep]
      rcases Int.lt_or_le c.toInt 0 with z | z
      · rw [po3 z 24 25 0 0 0 0 rfl (by omega) rfl (by omega) (by omega), if_pos rfl, f_X9_pool_25, if_neg (by decide), if_pos (show c < 0 from Int32.lt_iff_toInt_lt.mpr z)]
      · exact po2 ho hK hM hq hk z 24 25 0 0 0 0 c rfl (by omega) rfl (by omega) (by show c.toInt + 0 = _; omega) z (by omega)
    · rw [if_neg hd, if_pos rfl, if_pos rfl]
  · rw [qO_out hq, oc_none, if_neg hq, if_pos rfl]
