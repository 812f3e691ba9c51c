/-! 73: the state, as numbers: S.1 q d a grade, S.2.1 r q a row's size, S.2.2.1 r q is it told, S.2.2.2 r q i its documents -/
abbrev Ab : Type := (Nat → Nat → Int) × (Nat → Nat → Nat) × (Nat → Nat → Bool) × (Nat → Nat → Nat → Nat)
def okA (S : Ab) : Prop := (∀ q d, -1 ≤ S.1 q d ∧ S.1 q d ≤ 3) ∧ (∀ r q, S.2.1 r q ≤ 16) ∧ (∀ r q i, i < S.2.1 r q → S.2.2.2 r q i < 24) ∧ (∀ r q i j, i < S.2.1 r q → j < S.2.1 r q → S.2.2.2 r q i = S.2.2.2 r q j → i = j) ∧ ∀ r q, S.2.2.1 r q = false → S.2.1 r q = 0
def AbK (S : Ab) (M : Mem) : Prop := (∀ q d, q < 8 → d < 24 → (M.1 (18 + q) d).toInt = S.1 q d) ∧ (∀ r q, r < 4 → q < 8 → (M.1 (34 + 4 * q + r) 1).toInt = S.2.1 r q) ∧ (∀ r q, r < 4 → q < 8 → M.1 (34 + 4 * q + r) 2 = if S.2.2.1 r q then 1 else 0) ∧ ∀ r q i, r < 4 → q < 8 → i < S.2.1 r q → (M.1 (66 + 4 * q + r) i).toInt = S.2.2.2 r q i
def AbM (S : Ab) (M : Mem) : Prop := (∀ q d, q < 8 → d < 24 → (M.1 1 (24 * q + d)).toInt = S.1 q d + 1) ∧ (∀ r q, r < 4 → q < 8 → (M.1 3 (8 * r + q)).toInt = S.2.1 r q) ∧ (∀ r q, r < 4 → q < 8 → M.1 4 (8 * r + q) = if S.2.2.1 r q then 1 else 0) ∧ ∀ r q i, r < 4 → q < 8 → i < S.2.1 r q → (M.1 2 (16 * (8 * r + q) + i)).toInt = S.2.2.2 r q i
def Bd (M1 M2 : Mem) : Prop := M1.2 2 0 = M2.2 0 4 ∧ M1.2 2 1 = M2.2 0 5
def Rel (M1 M2 : Mem) : Prop := ∃ S : Ab, okA S ∧ AbK S M1 ∧ AbM S M2 ∧ Bd M1 M2
theorem oc_some {β : Type} (i : Nat) (a : β) (b : Nat → β) : oc (some i) a b = b i := rfl
theorem oc_none {β : Type} (a : β) (b : Nat → β) : oc none a b = a := rfl
abbrev nn (a : Int32) : Nat := a.toNatClampNeg
theorem nn_ti {a : Int32} (h : 0 ≤ a.toInt) : ((nn a : Nat) : Int) = a.toInt := clampI h
theorem nn_lt {a : Int32} {n : Nat} (h : 0 ≤ a.toInt) (h2 : a.toInt < n) : nn a < n := clampN h h2
theorem ixN8 {r q : Int32} (hr : 0 ≤ r.toInt ∧ r.toInt < 4) (hq : 0 ≤ q.toInt ∧ q.toInt < 8) : nn (8 * r + q) = 8 * nn r + nn q := by
  have e := ix8 hr hq
  have e1 := nn_ti (a := 8 * r + q) (by omega)
  have e2 := nn_ti hr.1
  have e3 := nn_ti hq.1
  omega
theorem ixN24 {q d : Int32} (hq : 0 ≤ q.toInt ∧ q.toInt < 8) (hd : 0 ≤ d.toInt ∧ d.toInt < 24) : nn (24 * q + d) = 24 * nn q + nn d := by
  have e := ix24 hq hd
  have e1 := nn_ti (a := 24 * q + d) (by omega)
  have e2 := nn_ti hq.1
  have e3 := nn_ti hd.1
  omega
theorem ixN16 {r q i : Int32} (hr : 0 ≤ r.toInt ∧ r.toInt < 4) (hq : 0 ≤ q.toInt ∧ q.toInt < 8) (hi : 0 ≤ i.toInt ∧ i.toInt < 16) : nn (16 * (8 * r + q) + i) = 16 * (8 * nn r + nn q) + nn i := by
  have e := ix8 hr hq
  have e0 := ix16 (k := 8 * r + q) (i := i) (by omega) hi
  have e1 := nn_ti (a := 16 * (8 * r + q) + i) (by omega)
  have e2 := nn_ti hr.1
  have e3 := nn_ti hq.1
  have e4 := nn_ti hi.1
  omega
/-- the bench's lookups -/
theorem qO_in {a : Int32} (h : 0 ≤ a.toInt ∧ a.toInt < 8) : f_X8_questionOf a = some (10 + nn a) := by
  unfold f_X8_questionOf
  rw [if_neg (fun c => by have t : a.toInt < 0 := i_lt c; omega), if_neg (fun c => by have t : 8 ≤ a.toInt := i_le c; omega)]
theorem qO_out {a : Int32} (h : ¬ (0 ≤ a.toInt ∧ a.toInt < 8)) : f_X8_questionOf a = none := by
  unfold f_X8_questionOf
  by_cases c : a < 0
  · rw [if_pos c]
  · have t : 0 ≤ a.toInt := i_nlt c
    rw [if_neg c, if_pos (Int32.le_iff_toInt_le.mpr (by show (8 : Int) ≤ a.toInt; omega))]
theorem pO_in {r q : Int32} (hr : 0 ≤ r.toInt ∧ r.toInt < 4) (hq : 0 ≤ q.toInt ∧ q.toInt < 8) : f_X8_placeOf r q = some (34 + 4 * nn q + nn r) := by
  unfold f_X8_placeOf
  rw [qO_in hq]
  show oc (f_X6_rowPlace (10 + nn q) r) none (fun o2 => some o2) = _
  unfold f_X6_rowPlace
  rw [if_neg (fun c => by have t : r.toInt < 0 := i_lt c; omega), if_neg (fun c => by have t : 4 ≤ r.toInt := i_le c; omega)]
  show some (34 + 4 * (10 + nn q + 16 - 26) + nn r) = _
  congr 1
  omega
theorem pO_out {r q : Int32} (h : ¬ ((0 ≤ r.toInt ∧ r.toInt < 4) ∧ (0 ≤ q.toInt ∧ q.toInt < 8))) : f_X8_placeOf r q = none := by
  unfold f_X8_placeOf
  by_cases hq : 0 ≤ q.toInt ∧ q.toInt < 8
  · rw [qO_in hq]
    show oc (f_X6_rowPlace (10 + nn q) r) none (fun o2 => some o2) = _
    unfold f_X6_rowPlace
    by_cases c : r < 0
    · rw [if_pos c]; rfl
    · have t : 0 ≤ r.toInt := i_nlt c
      rw [if_neg c, if_pos (Int32.le_iff_toInt_le.mpr (by show (4 : Int) ≤ r.toInt; omega))]; rfl
  · rw [qO_out hq]; rfl
section LOOK
variable {S : Ab} {M : Mem}
theorem rO_in (hK : AbK S M) {r q : Int32} (hr : 0 ≤ r.toInt ∧ r.toInt < 4) (hq : 0 ≤ q.toInt ∧ q.toInt < 8) : f_X8_rowOf M r q = if S.2.2.1 (nn r) (nn q) then some (34 + 4 * nn q + nn r) else none := by
  unfold f_X8_rowOf
  rw [pO_in hr hq, oc_some, bnd_eq]
  have e := hK.2.2.1 (nn r) (nn q) (nn_lt hr.1 (by omega)) (nn_lt hq.1 (by omega))
  unfold f_X7_isTold
  rw [e]
  cases S.2.2.1 (nn r) (nn q)
  · rfl
  · rfl
theorem rO_out {r q : Int32} (h : ¬ ((0 ≤ r.toInt ∧ r.toInt < 4) ∧ (0 ≤ q.toInt ∧ q.toInt < 8))) : f_X8_rowOf M r q = none := by
  unfold f_X8_rowOf
  rw [pO_out h]; rfl
/-- the model's lookups -/
theorem mQ {a : Int32} : f_X9_isQuestion a = if 0 ≤ a.toInt ∧ a.toInt < 8 then 1 else 0 := by
  unfold f_X9_isQuestion
  by_cases c : a < 0
  · have t : a.toInt < 0 := i_lt c
    rw [if_pos c, if_neg (by omega)]
  · have t : 0 ≤ a.toInt := i_nlt c
    rw [if_neg c]
    by_cases c2 : (8 : Int32) ≤ a
    · have t2 : 8 ≤ a.toInt := i_le c2
      rw [if_pos c2, if_neg (by omega)]
    · have t2 : a.toInt < 8 := i_nle c2
      rw [if_neg c2, if_pos (by omega)]
theorem mR {a : Int32} : f_X9_isRanker a = if 0 ≤ a.toInt ∧ a.toInt < 4 then 1 else 0 := by
  unfold f_X9_isRanker
  by_cases c : a < 0
  · have t : a.toInt < 0 := i_lt c
    rw [if_pos c, if_neg (by omega)]
  · have t : 0 ≤ a.toInt := i_nlt c
    rw [if_neg c]
    by_cases c2 : (4 : Int32) ≤ a
    · have t2 : 4 ≤ a.toInt := i_le c2
      rw [if_pos c2, if_neg (by omega)]
    · have t2 : a.toInt < 4 := i_nle c2
      rw [if_neg c2, if_pos (by omega)]
theorem mRow_in (hM : AbM S M) {r q : Int32} (hr : 0 ≤ r.toInt ∧ r.toInt < 4) (hq : 0 ≤ q.toInt ∧ q.toInt < 8) : f_X9_isRow M r q = if S.2.2.1 (nn r) (nn q) then 1 else 0 := by
  unfold f_X9_isRow
  simp only [bnd_eq]
  rw [mR, if_pos hr, mQ, if_pos hq, if_neg (by decide), if_neg (by decide)]
  have e := hM.2.2.1 (nn r) (nn q) (nn_lt hr.1 (by omega)) (nn_lt hq.1 (by omega))
  have e2 : (8 * r + q).toNatClampNeg = 8 * nn r + nn q := ixN8 hr hq
  rw [e2, e]
  cases S.2.2.1 (nn r) (nn q)
  · rfl
  · rfl
theorem mRow_out {r q : Int32} (h : ¬ ((0 ≤ r.toInt ∧ r.toInt < 4) ∧ (0 ≤ q.toInt ∧ q.toInt < 8))) : f_X9_isRow M r q = 0 := by
  unfold f_X9_isRow
  simp only [bnd_eq]
  rw [mR, mQ]
  by_cases hr : 0 ≤ r.toInt ∧ r.toInt < 4
  · rw [if_pos hr, if_neg (by decide), if_neg (fun z => h ⟨hr, z⟩), if_pos rfl]
  · rw [if_neg hr, if_pos rfl]
theorem mSize (hM : AbM S M) {r q : Int32} (hr : 0 ≤ r.toInt ∧ r.toInt < 4) (hq : 0 ≤ q.toInt ∧ q.toInt < 8) : (f_X9_size M r q).toInt = S.2.1 (nn r) (nn q) := by
  unfold f_X9_size
  have e2 : (8 * r + q).toNatClampNeg = 8 * nn r + nn q := ixN8 hr hq
  rw [e2]
  exact hM.2.1 _ _ (nn_lt hr.1 (by omega)) (nn_lt hq.1 (by omega))
theorem mDoc (ho : okA S) (hM : AbM S M) {r q i : Int32} (hr : 0 ≤ r.toInt ∧ r.toInt < 4) (hq : 0 ≤ q.toInt ∧ q.toInt < 8) (hi : 0 ≤ i.toInt) (hn : i.toInt < S.2.1 (nn r) (nn q)) : (f_X9_doc M r q i).toInt = S.2.2.2 (nn r) (nn q) (nn i) := by
  unfold f_X9_doc
  have h16 := ho.2.1 (nn r) (nn q)
  have e2 : (16 * (8 * r + q) + i).toNatClampNeg = 16 * (8 * nn r + nn q) + nn i := ixN16 hr hq ⟨hi, by omega⟩
  rw [e2]
  exact hM.2.2.2 _ _ _ (nn_lt hr.1 (by omega)) (nn_lt hq.1 (by omega)) (nn_lt hi hn)
theorem mGrade (ho : okA S) (hM : AbM S M) {q d : Int32} (hq : 0 ≤ q.toInt ∧ q.toInt < 8) (hd : 0 ≤ d.toInt ∧ d.toInt < 24) : (f_X9_gradeOf M q d).toInt = S.1 (nn q) (nn d) := by
  unfold f_X9_gradeOf
  have e2 : (24 * q + d).toNatClampNeg = 24 * nn q + nn d := ixN24 hq hd
  have e3 := hM.1 (nn q) (nn d) (nn_lt hq.1 (by omega)) (nn_lt hd.1 (by omega))
  rw [e2]
  have h := ho.1 (nn q) (nn d)
  have q1 := dec_sp (M.1 1 (24 * nn q + nn d))
  omega
theorem kGrade (hK : AbK S M) {q : Nat} (hq : q < 8) {d : Int32} (hd : 0 ≤ d.toInt ∧ d.toInt < 24) : (f_X6_gradeOf M (10 + q) d).toInt = S.1 q (nn d) := by
  unfold f_X6_gradeOf
  rw [if_neg (fun c => by have t : d.toInt < 0 := i_lt c; omega), if_neg (fun c => by have t : 24 ≤ d.toInt := i_le c; omega)]
  have e := hK.1 q (nn d) hq (nn_lt hd.1 (by omega))
  rw [show 10 + q + 8 = 18 + q by omega]
  exact e
theorem kGrade_out {q : Nat} {d : Int32} (hd : ¬ (0 ≤ d.toInt ∧ d.toInt < 24)) : f_X6_gradeOf M (10 + q) d = -1 := by
  unfold f_X6_gradeOf
  by_cases c : d < 0
  · rw [if_pos c]
  · have t : 0 ≤ d.toInt := i_nlt c
    rw [if_neg c, if_pos (Int32.le_iff_toInt_le.mpr (by show (24 : Int) ≤ d.toInt; omega))]
theorem kSize (hK : AbK S M) {r q : Nat} (hr : r < 4) (hq : q < 8) : (f_X7_size M (34 + 4 * q + r)).toInt = S.2.1 r q := hK.2.1 r q hr hq
theorem kDoc (ho : okA S) (hK : AbK S M) {r q : Nat} (hr : r < 4) (hq : q < 8) {a : Int32} (h1 : 1 ≤ a.toInt) (h2 : a.toInt ≤ S.2.1 r q) : (f_X7_documentAt M (34 + 4 * q + r) a).toInt = S.2.2.2 r q (a.toInt - 1).toNat := by
  have e := hK.2.1 r q hr hq
  have h16 := ho.2.1 r q
  unfold f_X7_documentAt
  rw [if_neg (fun c => by have t : a.toInt < 1 := i_lt c; omega), if_neg (fun c => by have t : (M.1 (34 + 4 * q + r) 1).toInt < a.toInt := i_lt c; omega), if_neg (fun c => by have t : 16 < a.toInt := i_lt c; omega)]
  have q1 := dec_sp a
  have e2 : (a - 1).toNatClampNeg = (a.toInt - 1).toNat := by
    show (a - 1).toInt.toNat = _
    congr 1
    omega
  rw [e2, show 34 + 4 * q + r + 32 = 66 + 4 * q + r by omega]
  exact hK.2.2.2 r q _ hr hq (by omega)
theorem kDoc_out (ho : okA S) (hK : AbK S M) {r q : Nat} (hr : r < 4) (hq : q < 8) {a : Int32} (h : ¬ (1 ≤ a.toInt ∧ a.toInt ≤ S.2.1 r q)) : f_X7_documentAt M (34 + 4 * q + r) a = -1 := by
  have e := hK.2.1 r q hr hq
  unfold f_X7_documentAt
  by_cases c : a < 1
  · rw [if_pos c]
  · have t : 1 ≤ a.toInt := i_nlt c
    rw [if_neg c, if_pos (Int32.lt_iff_toInt_lt.mpr (by omega))]
end LOOK
