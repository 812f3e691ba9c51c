/-! 74: the state's own methods on both sides -/
def upS (S : Ab) (r q n' : Nat) (t' : Bool) (dd : Nat → Nat) : Ab := (S.1, fun r' q' => if r' = r ∧ q' = q then n' else S.2.1 r' q', fun r' q' => if r' = r ∧ q' = q then t' else S.2.2.1 r' q', fun r' q' => if r' = r ∧ q' = q then dd else S.2.2.2 r' q')
def upG (S : Ab) (q d : Nat) (v : Int) : Ab := (fun q' d' => if q' = q ∧ d' = d then v else S.1 q' d', S.2)
theorem okA.row {S : Ab} {r q n' : Nat} {t' : Bool} {dd : Nat → Nat} (h : okA S) (h1 : n' ≤ 16) (h2 : ∀ i, i < n' → dd i < 24) (h3 : ∀ i j, i < n' → j < n' → dd i = dd j → i = j) (h4 : t' = false → n' = 0) : okA (upS S r q n' t' dd) := by
  obtain ⟨a1, a2, a3, a4, a5⟩ := h
  refine ⟨a1, ?_, ?_, ?_, ?_⟩
  · intro r' q'
    show (if r' = r ∧ q' = q then n' else S.2.1 r' q') ≤ 16
    split
    · exact h1
    · exact a2 _ _
  · intro r' q' i
    show i < (if r' = r ∧ q' = q then n' else S.2.1 r' q') → (if r' = r ∧ q' = q then dd else S.2.2.2 r' q') i < 24
    split
    · exact h2 i
    · exact a3 _ _ i
  · intro r' q' i j
    show i < (if r' = r ∧ q' = q then n' else S.2.1 r' q') → j < (if r' = r ∧ q' = q then n' else S.2.1 r' q') → (if r' = r ∧ q' = q then dd else S.2.2.2 r' q') i = (if r' = r ∧ q' = q then dd else S.2.2.2 r' q') j → i = j
    split
    · exact h3 i j
    · exact a4 _ _ i j
  · intro r' q'
    show (if r' = r ∧ q' = q then t' else S.2.2.1 r' q') = false → (if r' = r ∧ q' = q then n' else S.2.1 r' q') = 0
    split
    · exact h4
    · exact a5 _ _
theorem AbK.row {S : Ab} {M M' : Mem} {r q n' : Nat} {t' : Bool} {dd : Nat → Nat} (hK : AbK S M) (hr : r < 4) (hq : q < 8) (ho : ∀ i, i ≠ 34 + 4 * q + r → i ≠ 66 + 4 * q + r → M'.1 i = M.1 i) (h1 : (M'.1 (34 + 4 * q + r) 1).toInt = n') (h2 : M'.1 (34 + 4 * q + r) 2 = if t' then 1 else 0) (h3 : ∀ i, i < n' → (M'.1 (66 + 4 * q + r) i).toInt = dd i) : AbK (upS S r q n' t' dd) M' := by
  obtain ⟨a1, a2, a3, a4⟩ := hK
  refine ⟨?_, ?_, ?_, ?_⟩
  · intro q' d hq' hd
    rw [ho (18 + q') (by omega) (by omega)]
    exact a1 q' d hq' hd
  · intro r' q' hr' hq'
    show (M'.1 (34 + 4 * q' + r') 1).toInt = ((if r' = r ∧ q' = q then n' else S.2.1 r' q' : Nat) : Int)
    split
    · rename_i e; rw [e.1, e.2]; exact h1
    · rename_i e
      rw [ho _ (fun z => e (by omega)) (by omega)]
      exact a2 r' q' hr' hq'
  · intro r' q' hr' hq'
    show M'.1 (34 + 4 * q' + r') 2 = if (if r' = r ∧ q' = q then t' else S.2.2.1 r' q') = true then 1 else 0
    by_cases e : r' = r ∧ q' = q
    · rw [if_pos e, e.1, e.2]; exact h2
    · rw [if_neg e, ho _ (fun z => e (by omega)) (by omega)]
      exact a3 r' q' hr' hq'
  · intro r' q' i hr' hq'
    show i < (if r' = r ∧ q' = q then n' else S.2.1 r' q') → (M'.1 (66 + 4 * q' + r') i).toInt = (((if r' = r ∧ q' = q then dd else S.2.2.2 r' q') i : Nat) : Int)
    by_cases e : r' = r ∧ q' = q
    · rw [if_pos e, if_pos e, e.1, e.2]; exact h3 i
    · rw [if_neg e, if_neg e, ho _ (by omega) (fun z => e (by omega))]
      exact a4 r' q' i hr' hq'
theorem AbM.row {S : Ab} {M M' : Mem} {r q n' : Nat} {t' : Bool} {dd : Nat → Nat} (hA : okA S) (hM : AbM S M) (hr : r < 4) (hq : q < 8) (g1 : M'.1 1 = M.1 1) (o3 : ∀ j, j ≠ 8 * r + q → M'.1 3 j = M.1 3 j) (o4 : ∀ j, j ≠ 8 * r + q → M'.1 4 j = M.1 4 j) (o2 : ∀ j, (j < 16 * (8 * r + q) ∨ 16 * (8 * r + q) + 16 ≤ j) → M'.1 2 j = M.1 2 j) (h1 : (M'.1 3 (8 * r + q)).toInt = n') (h2 : M'.1 4 (8 * r + q) = if t' then 1 else 0) (h3 : ∀ i, i < n' → (M'.1 2 (16 * (8 * r + q) + i)).toInt = dd i) : AbM (upS S r q n' t' dd) M' := by
  obtain ⟨a1, a2, a3, a4⟩ := hM
  refine ⟨?_, ?_, ?_, ?_⟩
  · intro q' d hq' hd
    rw [g1]
    exact a1 q' d hq' hd
  · intro r' q' hr' hq'
    show (M'.1 3 (8 * r' + q')).toInt = ((if r' = r ∧ q' = q then n' else S.2.1 r' q' : Nat) : Int)
    split
    · rename_i e; rw [e.1, e.2]; exact h1
    · rename_i e
      rw [o3 _ (fun z => e (by omega))]
      exact a2 r' q' hr' hq'
  · intro r' q' hr' hq'
    show M'.1 4 (8 * r' + q') = if (if r' = r ∧ q' = q then t' else S.2.2.1 r' q') = true then 1 else 0
    by_cases e : r' = r ∧ q' = q
    · rw [if_pos e, e.1, e.2]; exact h2
    · rw [if_neg e, o4 _ (fun z => e (by omega))]
      exact a3 r' q' hr' hq'
  · intro r' q' i hr' hq'
    show i < (if r' = r ∧ q' = q then n' else S.2.1 r' q') → (M'.1 2 (16 * (8 * r' + q') + i)).toInt = (((if r' = r ∧ q' = q then dd else S.2.2.2 r' q') i : Nat) : Int)
    by_cases e : r' = r ∧ q' = q
    · rw [if_pos e, if_pos e, e.1, e.2]; exact h3 i
    · intro hi
      rw [if_neg e] at hi ⊢
      have h16 := hA.2.1 r' q'
      rw [o2 _ (by omega)]
      exact a4 r' q' i hr' hq' hi
/-- the first place from i on (m left) that holds a -/
def fnd (d : Nat → Nat) (a : Int) : Nat → Nat → Nat
  | i, 0 => i
  | i, m + 1 => if (d i : Int) = a then i else fnd d a (i + 1) m
theorem fnd_le (d : Nat → Nat) (a : Int) : ∀ m i, i ≤ fnd d a i m ∧ fnd d a i m ≤ i + m
  | 0, i => ⟨Nat.le_refl _, Nat.le_refl _⟩
  | m + 1, i => by
    rw [fnd]
    have h := fnd_le d a m (i + 1)
    split <;> omega
theorem fnd_at (d : Nat → Nat) (a : Int) : ∀ m i, fnd d a i m < i + m → (d (fnd d a i m) : Int) = a
  | 0, i, h => absurd h (by rw [fnd]; omega)
  | m + 1, i, h => by
    rw [fnd] at h ⊢
    split
    · rename_i e; exact e
    · rename_i e
      rw [if_neg e] at h
      exact fnd_at d a m (i + 1) (by omega)
theorem fnd_no (d : Nat → Nat) (a : Int) : ∀ m i j, i ≤ j → j < fnd d a i m → (d j : Int) ≠ a
  | 0, i, j, h1, h2 => absurd h2 (by rw [fnd]; omega)
  | m + 1, i, j, h1, h2 => by
    rw [fnd] at h2
    split at h2
    · omega
    · rename_i e
      rcases Nat.eq_or_lt_of_le h1 with z | z
      · rw [← z]; exact e
      · exact fnd_no d a m (i + 1) j z h2
theorem mFind_3 {S : Ab} {M : Mem} (ho : okA S) (hM : AbM S M) {r q : Int32} (hr : 0 ≤ r.toInt ∧ r.toInt < 4) (hq : 0 ≤ q.toInt ∧ q.toInt < 8) (a : Int32) : ∀ (k m : Nat) (v : Int32), 0 ≤ v.toInt → v.toInt + m = S.2.1 (nn r) (nn q) → m < k → (f_X9_find_3 k M r q a v).toInt = fnd (S.2.2.2 (nn r) (nn q)) a.toInt (nn v) m
  | 0, m, v, _, _, h => absurd h (by omega)
  | k + 1, m, v, h0, hm, hk => by
    rw [f_X9_find_3]
    simp only [bnd_eq]
    have es := mSize hM hr hq
    have ev := nn_ti h0
    cases m with
    | zero =>
      rw [if_pos (Int32.le_iff_toInt_le.mpr (by omega)), fnd]
      omega
    | succ m =>
      have ed := mDoc ho hM hr hq h0 (by omega)
      have h16 := ho.2.1 (nn r) (nn q)
      rw [if_neg (fun c => by have t := i_le c; omega), fnd]
      by_cases e : f_X9_doc M r q v = a
      · rw [if_pos e, if_pos (by rw [← e, ed])]
        omega
      · have qv := inc_sp v
        have e3 : nn (v + 1) = nn v + 1 := by
          have := nn_ti (a := v + 1) (by omega)
          omega
        rw [if_neg e, if_neg (fun z => e (i_ext (by rw [ed]; exact z))), mFind_3 ho hM hr hq a k m (v + 1) (by omega) (by omega) (by omega), e3]
theorem mFind {S : Ab} {M : Mem} (ho : okA S) (hM : AbM S M) {r q : Int32} (hr : 0 ≤ r.toInt ∧ r.toInt < 4) (hq : 0 ≤ q.toInt ∧ q.toInt < 8) (a : Int32) : (f_X9_find M r q a).toInt = fnd (S.2.2.2 (nn r) (nn q)) a.toInt 0 (S.2.1 (nn r) (nn q)) :=
  mFind_3 ho hM hr hq a 17 _ 0 (by decide) (by show (0 : Int) + _ = _; omega) (by have := ho.2.1 (nn r) (nn q); omega)
theorem kRank_2 {S : Ab} {M : Mem} (ho : okA S) (hK : AbK S M) {r q : Nat} (hr : r < 4) (hq : q < 8) (a : Int32) : ∀ (k m : Nat) (v : Int32), 0 ≤ v.toInt → v.toInt + m = S.2.1 r q → m < k → (f_X7_rankOf_2 k M (34 + 4 * q + r) a v).toInt = if fnd (S.2.2.2 r q) a.toInt (nn v) m = S.2.1 r q then 0 else ((fnd (S.2.2.2 r q) a.toInt (nn v) m + 1 : Nat) : Int)
  | 0, m, v, _, _, h => absurd h (by omega)
  | k + 1, m, v, h0, hm, hk => by
    rw [f_X7_rankOf_2]
    have es := hK.2.1 r q hr hq
    have ev := nn_ti h0
    have h16 := ho.2.1 r q
    cases m with
    | zero =>
      rw [if_pos (Int32.le_iff_toInt_le.mpr (by omega)), fnd, if_pos (by omega)]
      rfl
    | succ m =>
      have ed := hK.2.2.2 r q (nn v) hr hq (by omega)
      rw [if_neg (fun c => by have t := i_le c; omega), if_neg (fun c => by have t : 16 ≤ v.toInt := i_le c; omega)]
      rw [show 34 + 4 * q + r + 32 = 66 + 4 * q + r by omega]
      have qv := inc_sp v
      by_cases e : M.1 (66 + 4 * q + r) v.toNatClampNeg = a
      · have hf : fnd (S.2.2.2 r q) a.toInt (nn v) (m + 1) = nn v := by rw [fnd, if_pos (by rw [← e]; exact ed.symm)]
        rw [if_pos e, hf, if_neg (by omega)]
        omega
      · have e3 : nn (v + 1) = nn v + 1 := by
          have := nn_ti (a := v + 1) (by omega)
          omega
        have hf : fnd (S.2.2.2 r q) a.toInt (nn v) (m + 1) = fnd (S.2.2.2 r q) a.toInt (nn v + 1) m := by
          rw [fnd, if_neg (fun z => e (i_ext (by rw [show v.toNatClampNeg = nn v from rfl, ed]; exact z)))]
        rw [if_neg e, hf, kRank_2 ho hK hr hq a k m (v + 1) (by omega) (by omega) (by omega), e3]
theorem kRank {S : Ab} {M : Mem} (ho : okA S) (hK : AbK S M) {r q : Nat} (hr : r < 4) (hq : q < 8) (a : Int32) : (f_X7_rankOf M (34 + 4 * q + r) a).toInt = if fnd (S.2.2.2 r q) a.toInt 0 (S.2.1 r q) = S.2.1 r q then 0 else ((fnd (S.2.2.2 r q) a.toInt 0 (S.2.1 r q) + 1 : Nat) : Int) :=
  kRank_2 ho hK hr hq a 17 _ 0 (by decide) (by show (0 : Int) + _ = _; omega) (by have := ho.2.1 r q; omega)
