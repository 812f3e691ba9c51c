/-! 89a: rows laid into one another -/
def la (l : Nat → Nat) (d : Nat) : Nat → Bool
  | 0 => false
  | n + 1 => la l d n || decide (l n = d)
theorem la_congr {l l' : Nat → Nat} (d : Nat) : ∀ n, (∀ i, i < n → l i = l' i) → la l d n = la l' d n
  | 0, _ => rfl
  | n + 1, h => by rw [la, la, la_congr d n (fun i hi => h i (by omega)), h n (by omega)]
theorem la_up (l : Nat → Nat) (d : Nat) : ∀ (j r : Nat), la l d r = true → la l d (r + j) = true
  | 0, _, h => h
  | j + 1, r, h => by
    show (la l d (r + j) || _) = true
    rw [la_up l d j r h]; rfl
theorem bset : ∀ d, d < 24 → ∀ e, e < 24 → ((1 : Int32) <<< (Int32.ofNat d &&& 31)).toBitVec.getLsbD e = decide (e = d) := by decide +kernel
theorem bsh : ∀ d, d < 24 → (((Int32.ofNat d).toUInt32 &&& Int32.toUInt32 31).toBitVec % 32) = BitVec.ofNat 32 d := by decide +kernel
theorem btst (x : Int32) {d : Nat} (hd : d < 24) : ((((x.toUInt32 >>> ((Int32.ofNat d).toUInt32 &&& Int32.toUInt32 31)).toInt32 &&& 1) = 0) ↔ x.toBitVec.getLsbD d = false) := by
  have e1 : (((x.toUInt32 >>> ((Int32.ofNat d).toUInt32 &&& Int32.toUInt32 31)).toInt32 &&& 1)).toBitVec = (x.toBitVec >>> d) &&& 1#32 := by
    rw [Int32.toBitVec_and]
    congr 1
    show (x.toUInt32 >>> ((Int32.ofNat d).toUInt32 &&& Int32.toUInt32 31)).toBitVec = _
    rw [UInt32.toBitVec_shiftRight, bsh d hd]
    show x.toBitVec >>> (BitVec.ofNat 32 d).toNat = _
    rw [BitVec.toNat_ofNat, Nat.mod_eq_of_lt (by omega)]
  have e2 : (x.toBitVec >>> d).getLsbD 0 = x.toBitVec.getLsbD d := by rw [BitVec.getLsbD_ushiftRight, Nat.add_zero]
  constructor
  · intro h
    have h2 := congrArg Int32.toBitVec h
    rw [e1, BitVec.and_one_eq_setWidth_ofBool_getLsbD, e2] at h2
    cases hb : x.toBitVec.getLsbD d
    · rfl
    · rw [hb] at h2; exact absurd h2 (by decide)
  · intro h
    apply Int32.toBitVec_inj.mp
    rw [e1, BitVec.and_one_eq_setWidth_ofBool_getLsbD, e2, h]
    decide
def RLy (S : Ab) (n : Nat) (l : Nat → Nat) (M1 M2 : Mem) : Prop := AbK S M1 ∧ AbM S M2 ∧ Bd M1 M2 ∧ M1.1 7 3 = M2.1 0 10 ∧ (M1.1 7 2).toInt = n ∧ (M2.1 0 13).toInt = n ∧ n ≤ 16 ∧ (∀ i, i < n → (M1.1 8 i).toInt = l i ∧ (M2.1 7 i).toInt = l i ∧ M1.1 9 i = M2.1 8 i ∧ l i < 24) ∧ ∀ d, d < 24 → (M1.1 7 6).toBitVec.getLsbD d = la l d n
theorem AbK.of18 {S : Ab} {M M' : Mem} (h : AbK S M) (e : ∀ i, 18 ≤ i → M'.1 i = M.1 i) : AbK S M' := by
  obtain ⟨a1, a2, a3, a4⟩ := h
  refine ⟨?_, ?_, ?_, ?_⟩
  · intro q d hq hd; rw [e _ (by omega)]; exact a1 q d hq hd
  · intro r q hr hq; rw [e _ (by omega)]; exact a2 r q hr hq
  · intro r q hr hq; rw [e _ (by omega)]; exact a3 r q hr hq
  · intro r q i hr hq hi; rw [e _ (by omega)]; exact a4 r q i hr hq hi
theorem AbM.of14 {S : Ab} {M M' : Mem} (h : AbM S M) (e1 : M'.1 1 = M.1 1) (e2 : M'.1 2 = M.1 2) (e3 : M'.1 3 = M.1 3) (e4 : M'.1 4 = M.1 4) : AbM S M' := by
  obtain ⟨a1, a2, a3, a4⟩ := h
  exact ⟨by rw [e1]; exact a1, by rw [e3]; exact a2, by rw [e4]; exact a3, by rw [e2]; exact a4⟩
section LY
variable {S : Ab} {M1 M2 : Mem} {n : Nat} {l : Nat → Nat}
theorem mIl (h : RLy S n l M1 M2) {v1 : Int32} {d : Nat} (hd : v1.toInt = d) : ∀ (j m i : Nat) (v : Int32), v.toInt = i → i + j = n → la l d i = false → j < m → f_X9_isLaid_2 m M2 v1 v = if la l d n then 1 else 0 := by
  obtain ⟨hK, hM, hB, h3, h2, h13, h16, hi, hb⟩ := h
  intro j
  induction j with
  | zero =>
    intro m i v hv hin hf hm
    obtain ⟨m, rfl⟩ : ∃ y, m = y + 1 := ⟨m - 1, by omega⟩
    have z : i = n := by omega
    subst z
    rw [f_X9_isLaid_2, if_pos (show M2.1 0 13 ≤ v from Int32.le_iff_toInt_le.mpr (by omega)), hf]; rfl
  | succ j ih =>
    intro m i v hv hin hf hm
    obtain ⟨m, rfl⟩ : ∃ y, m = y + 1 := ⟨m - 1, by omega⟩
    have ec : v.toNatClampNeg = i := by have := clampI (x := v) (by omega); omega
    have qv := inc_sp v
    have e := (hi i (by omega)).2.1
    rw [f_X9_isLaid_2, if_neg (show ¬ M2.1 0 13 ≤ v from fun z => by have t := i_le z; omega), ec]
    by_cases c : M2.1 7 i = v1
    · rw [c] at e
      have hs : la l d (i + 1) = true := by rw [la, hf, decide_eq_true (by omega)]; rfl
      have hn := la_up l d j (i + 1) hs
      rw [show i + 1 + j = n by omega] at hn
      rw [if_pos c, hn]; rfl
    · have hne : ¬ l i = d := fun z => c (i_ext (by rw [e, hd, z]))
      have hs : la l d (i + 1) = false := by rw [la, hf, decide_eq_false hne]; rfl
      rw [if_neg c]
      exact ih m (i + 1) (v + 1) (by omega) (by omega) hs (by omega)
theorem nx2 (ho : okA S) (h : RLy S n l M1 M2) {r q : Int32} (hr : 0 ≤ r.toInt ∧ r.toInt < 4) (hq : 0 ≤ q.toInt ∧ q.toInt < 8) : ∀ (j m1 m2 i : Nat) (v1 v2 : Int32), v1.toInt = i + 1 → v2.toInt = i → i + j = S.2.1 (nn r) (nn q) → j < m1 → j < m2 → f_X4_firstNotLaid_2 m1 M1 (34 + 4 * nn q + nn r) v1 = f_X9_nextOf_2 m2 M2 r q v2 ∧ (f_X9_nextOf_2 m2 M2 r q v2 = -1 ∨ ∃ d : Nat, d < 24 ∧ f_X9_nextOf_2 m2 M2 r q v2 = Int32.ofNat d ∧ la l d n = false) := by
  have h0 := h
  obtain ⟨hK, hM, hB, h3, h2, h13, h16, hi, hb⟩ := h
  have hrn : nn r < 4 := nn_lt hr.1 (by omega)
  have hqn : nn q < 8 := nn_lt hq.1 (by omega)
  have es := kSize hK hrn hqn
  have ms := mSize hM hr hq
  intro j
  induction j with
  | zero =>
    intro m1 m2 i v1 v2 hv1 hv2 hij hm1 hm2
    obtain ⟨m1, rfl⟩ : ∃ y, m1 = y + 1 := ⟨m1 - 1, by omega⟩
    obtain ⟨m2, rfl⟩ : ∃ y, m2 = y + 1 := ⟨m2 - 1, by omega⟩
    rw [f_X4_firstNotLaid_2, f_X9_nextOf_2]
    simp only [bnd_eq]
    rw [if_pos (show f_X7_size M1 (34 + 4 * nn q + nn r) < v1 from Int32.lt_iff_toInt_lt.mpr (by omega)), if_pos (show f_X9_size M2 r q ≤ v2 from Int32.le_iff_toInt_le.mpr (by omega))]
    exact ⟨rfl, Or.inl rfl⟩
  | succ j ih =>
    intro m1 m2 i v1 v2 hv1 hv2 hij hm1 hm2
    obtain ⟨m1, rfl⟩ : ∃ y, m1 = y + 1 := ⟨m1 - 1, by omega⟩
    obtain ⟨m2, rfl⟩ : ∃ y, m2 = y + 1 := ⟨m2 - 1, by omega⟩
    have hsz := ho.2.1 (nn r) (nn q)
    rw [f_X4_firstNotLaid_2, f_X9_nextOf_2]
    simp only [bnd_eq]
    rw [if_neg (show ¬ f_X7_size M1 (34 + 4 * nn q + nn r) < v1 from fun z => by have t := i_lt z; omega), if_neg (show ¬ f_X9_size M2 r q ≤ v2 from fun z => by have t := i_le z; omega)]
    have e1 := kDoc ho hK hrn hqn (a := v1) (by omega) (by omega)
    rw [show (v1.toInt - 1).toNat = i by omega] at e1
    have e2 := mDoc ho hM hr hq (i := v2) (by omega) (by omega)
    have ei : nn v2 = i := by have := nn_ti (a := v2) (by omega); omega
    rw [ei] at e2
    have h24 := ho.2.2.1 (nn r) (nn q) i (by omega)
    have ed1 : f_X7_documentAt M1 (34 + 4 * nn q + nn r) v1 = Int32.ofNat (S.2.2.2 (nn r) (nn q) i) := i_ext (by rw [e1, ofn_ti _ (by omega)])
    have ed2 : f_X9_doc M2 r q v2 = Int32.ofNat (S.2.2.2 (nn r) (nn q) i) := i_ext (by rw [e2, ofn_ti _ (by omega)])
    have q1 := inc_sp v1
    have q2 := inc_sp v2
    have il : f_X9_isLaid M2 (f_X9_doc M2 r q v2) = if la l (S.2.2.2 (nn r) (nn q) i) n then 1 else 0 := mIl h0 e2 n 17 0 0 rfl (by omega) rfl (by omega)
    rw [il, ed1, ed2]
    have hbit := hb (S.2.2.2 (nn r) (nn q) i) h24
    have bt := btst (M1.1 7 6) h24
    have next := ih m1 m2 (i + 1) (v1 + 1) (v2 + 1) (by omega) (by omega) (by omega) (by omega) (by omega)
    cases hla : la l (S.2.2.2 (nn r) (nn q) i) n
    · rw [hla] at hbit
      rw [if_pos (bt.mpr hbit), if_pos (show (if false = true then (1 : Int32) else 0) = 0 from rfl)]
      exact ⟨rfl, Or.inr ⟨_, h24, rfl, hla⟩⟩
    · rw [hla] at hbit
      rw [if_neg (fun z => by have := bt.mp z; rw [hbit] at this; exact absurd this (by decide)), if_neg (show ¬ (if true = true then (1 : Int32) else 0) = 0 by decide)]
      exact next
theorem nx (ho : okA S) (h : RLy S n l M1 M2) {r q : Int32} (hr : 0 ≤ r.toInt ∧ r.toInt < 4) (hq : 0 ≤ q.toInt ∧ q.toInt < 8) : f_X4_firstNotLaid M1 (34 + 4 * nn q + nn r) = f_X9_nextOf M2 r q ∧ (f_X9_nextOf M2 r q = -1 ∨ ∃ d : Nat, d < 24 ∧ f_X9_nextOf M2 r q = Int32.ofNat d ∧ la l d n = false) := by
  have es := kSize h.1 (nn_lt hr.1 (by omega) : nn r < 4) (nn_lt hq.1 (by omega) : nn q < 8)
  have es' : (M1.1 (34 + 4 * nn q + nn r) 1).toInt = S.2.1 (nn r) (nn q) := es
  have hsz := ho.2.1 (nn r) (nn q)
  exact nx2 ho h hr hq (S.2.1 (nn r) (nn q)) (((M1.1 (34 + 4 * nn q + nn r) 1).toInt - 1 + 1 : Int).toNat + 1) 17 0 1 0 rfl rfl (by omega) (by omega) (by omega)
theorem ly2 (ho : okA S) (h : RLy S n l M1 M2) {r q a : Int32} (hr : 0 ≤ r.toInt ∧ r.toInt < 4) (hq : 0 ≤ q.toInt ∧ q.toInt < 8) (ha : a = 0 ∨ a = 1) : ∃ n' l', RLy S n' l' (f_X4_layNext M1 (34 + 4 * nn q + nn r) a) (f_X9_layOne M2 r q a) := by
  have h0 := h
  obtain ⟨hK, hM, hB, h3, h2, h13, h16, hi, hb⟩ := h
  obtain ⟨e, hx⟩ := nx ho h0 hr hq
  unfold f_X4_layNext f_X9_layOne
  simp only [bnd_eq]
  rw [e]
  rcases hx with z | ⟨d, hd, z, hl⟩
  · rw [z, if_pos rfl, if_pos (show (-1 : Int32) < 0 by decide)]
    exact ⟨n, l, h0⟩
  · have dt := ofn_ti d (by omega)
    rw [z, if_neg (show ¬ Int32.ofNat d = -1 from fun y => by rw [y] at dt; have : (-1 : Int32).toInt = -1 := rfl; omega), if_neg (show ¬ M1.1 7 2 < 0 from fun y => by have t : (M1.1 7 2).toInt < 0 := i_lt y; omega), if_neg (show ¬ Int32.ofNat d < 0 from fun y => by have t : (Int32.ofNat d).toInt < 0 := i_lt y; omega)]
    by_cases c : n < 16
    · rw [if_pos (show M1.1 7 2 < 16 from Int32.lt_iff_toInt_lt.mpr (by show (M1.1 7 2).toInt < 16; omega)), if_neg (show ¬ (16 : Int32) ≤ M2.1 0 13 from fun y => by have t : 16 ≤ (M2.1 0 13).toInt := i_le y; omega)]
      have c1 : (M1.1 7 2).toNatClampNeg = n := by have := clampI (x := M1.1 7 2) (by omega); omega
      have c2 : (M2.1 0 13).toNatClampNeg = n := by have := clampI (x := M2.1 0 13) (by omega); omega
      have g1 : (ui M1 8 n (Int32.ofNat d)).1 7 2 = M1.1 7 2 := by rw [ui_ne (by decide)]
      have g2 : (ui M2 7 n (Int32.ofNat d)).1 0 13 = M2.1 0 13 := by rw [ui_ne (by decide)]
      have va : vp_nar .boolean a = a := by rcases ha with y | y <;> rw [y] <;> rfl
      rw [c1, c2, g1, g2, c1, c2, va]
      have g3 : (ui (ui M1 8 n (Int32.ofNat d)) 9 n a).1 7 6 = M1.1 7 6 := by rw [ui_ne (by decide), ui_ne (by decide)]
      have g4 : (ui (ui M2 7 n (Int32.ofNat d)) 8 n a).1 0 13 = M2.1 0 13 := by rw [ui_ne (by decide), ui_ne (by decide)]
      rw [g3, g4]
      have g5 : (ui (ui (ui M1 8 n (Int32.ofNat d)) 9 n a) 7 6 (M1.1 7 6 ||| 1 <<< (Int32.ofNat d &&& 31))).1 7 2 = M1.1 7 2 := by rw [ui_at_ne (by decide), ui_ne (by decide), ui_ne (by decide)]
      rw [g5]
      have q1 := inc_sp (M1.1 7 2)
      have q2 := inc_sp (M2.1 0 13)
      refine ⟨n + 1, fun i => if i = n then d else l i, hK.of18 (fun i h18 => ?_), hM.of14 ?_ ?_ ?_ ?_, hB.same rfl rfl, ?_, ?_, ?_, by omega, ?_, ?_⟩
      · rw [ui_ne (by omega), ui_ne (by omega), ui_ne (by omega), ui_ne (by omega)]
      · rw [ui_ne (by decide), ui_ne (by decide), ui_ne (by decide)]
      · rw [ui_ne (by decide), ui_ne (by decide), ui_ne (by decide)]
      · rw [ui_ne (by decide), ui_ne (by decide), ui_ne (by decide)]
      · rw [ui_ne (by decide), ui_ne (by decide), ui_ne (by decide)]
      · rw [ui_at_ne (by decide), ui_at_ne (by decide), ui_ne (by decide), ui_ne (by decide), ui_at_ne (by decide), ui_ne (by decide), ui_ne (by decide)]
        exact h3
      · rw [ui_at]; omega
      · rw [ui_at]; omega
      · intro i hin
        rw [ui_ne (show (8 : Nat) ≠ 7 by decide), ui_ne (show (8 : Nat) ≠ 7 by decide), ui_ne (show (8 : Nat) ≠ 9 by decide), ui_ne (show (7 : Nat) ≠ 0 by decide), ui_ne (show (7 : Nat) ≠ 8 by decide), ui_ne (show (9 : Nat) ≠ 7 by decide), ui_ne (show (9 : Nat) ≠ 7 by decide), ui_ne (show (8 : Nat) ≠ 0 by decide)]
        show ((ui M1 8 n (Int32.ofNat d)).1 8 i).toInt = ((if i = n then d else l i : Nat) : Int) ∧ ((ui M2 7 n (Int32.ofNat d)).1 7 i).toInt = ((if i = n then d else l i : Nat) : Int) ∧ (ui (ui M1 8 n (Int32.ofNat d)) 9 n a).1 9 i = (ui (ui M2 7 n (Int32.ofNat d)) 8 n a).1 8 i ∧ (if i = n then d else l i) < 24
        by_cases y : i = n
        · subst y
          rw [if_pos rfl, ui_at, ui_at, ui_at, ui_at]
          exact ⟨dt, dt, rfl, hd⟩
        · have hin' := hi i (by omega)
          rw [if_neg y, ui_at_ne y, ui_at_ne y, ui_at_ne y, ui_at_ne y, ui_ne (by decide), ui_ne (by decide)]
          exact hin'
      · intro e he
        rw [ui_at_ne (by decide), ui_at]
        rw [Int32.toBitVec_or, BitVec.getLsbD_or, hb e he, bset d hd e he]
        show _ = (la (fun i => if i = n then d else l i) e n || decide ((if n = n then d else l n) = e))
        rw [if_pos rfl, la_congr (l := fun i => if i = n then d else l i) (l' := l) e n (fun i hi2 => if_neg (by omega))]
        congr 1
        rw [decide_eq_decide]
        omega
    · rw [if_neg (show ¬ M1.1 7 2 < 16 from fun y => by have t : (M1.1 7 2).toInt < 16 := i_lt y; omega), if_pos (show (16 : Int32) ≤ M2.1 0 13 from Int32.le_iff_toInt_le.mpr (by show (16 : Int) ≤ (M2.1 0 13).toInt; omega))]
      exact ⟨n, l, h0⟩
theorem dr2 (h : RLy S n l M1 M2) : (f_X4_draw M1).1 = (f_X9_draw M2).1 ∧ RLy S n l (f_X4_draw M1).2 (f_X9_draw M2).2 := by
  obtain ⟨hK, hM, hB, h3, h2, h13, h16, hi, hb⟩ := h
  have e1 : f_X4_draw M1 = ((((1664525 * M1.1 7 3 + 1013904223).toUInt32 >>> ((16 : Int32).toUInt32 &&& Int32.toUInt32 31)).toInt32), ui M1 7 3 (1664525 * M1.1 7 3 + 1013904223)) := by
    unfold f_X4_draw
    simp only [bnd_eq]
    rw [ui_at]
  have e2 : f_X9_draw M2 = ((((1664525 * M2.1 0 10 + 1013904223).toUInt32 >>> ((16 : Int32).toUInt32 &&& Int32.toUInt32 31)).toInt32), ui M2 0 10 (1664525 * M2.1 0 10 + 1013904223)) := by
    unfold f_X9_draw
    simp only [bnd_eq]
    rw [ui_at]
  rw [e1, e2, h3]
  refine ⟨rfl, hK.of18 (fun i h18 => ?_), hM.of14 ?_ ?_ ?_ ?_, hB.same rfl rfl, ?_, ?_, ?_, h16, ?_, ?_⟩
  · rw [ui_ne (by omega)]
  · rw [ui_ne (by decide)]
  · rw [ui_ne (by decide)]
  · rw [ui_ne (by decide)]
  · rw [ui_ne (by decide)]
  · rw [ui_at, ui_at]
  · rw [ui_at_ne (by decide)]; exact h2
  · rw [ui_at_ne (by decide)]; exact h13
  · intro i hin
    rw [ui_ne (show (8 : Nat) ≠ 7 by decide), ui_ne (show (9 : Nat) ≠ 7 by decide), ui_ne (show (7 : Nat) ≠ 0 by decide), ui_ne (show (8 : Nat) ≠ 0 by decide)]
    exact hi i hin
  · intro d hd
    rw [ui_at_ne (by decide)]; exact hb d hd
end LY
