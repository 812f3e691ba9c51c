/-! 90d: the bench's 98 cells in their order -/
theorem len4 {rs : List (Nat × Nat)} (h : rs.length = 4) : ∃ a b c d, rs = [a, b, c, d] := by
  match rs, h with
  | [a, b, c, d], _ => exact ⟨a, b, c, d, rfl⟩
theorem len8 {α : Type} {rs : List α} (h : rs.length = 8) : ∃ a b c d e f g k, rs = [a, b, c, d, e, f, g, k] := by
  match rs, h with
  | [a, b, c, d, e, f, g, k], _ => exact ⟨a, b, c, d, e, f, g, k, rfl⟩
def baseW (E : Nat → ClassId) (q : Nat → Nat) (f : Nat → Option Nat) : va_W := [(q 0, .inr (5, [.ref (q 1), .ref (q 2), .ref (q 3), .ref (q 4), .ref (q 5), .ref (q 7)])), (q 1, .inl (E 4, 8, .inr (.inr (.inr (.inr (f)))))), (q 2, .inr (1, [.long 0, .long 1])), (q 3, .inr (1, [.long 0, .long 1])), (q 4, .inr (1, [.long 0, .long 1])), (q 5, .inr (0, [.ref (q 6), .long 1, .int 0])), (q 6, .inl (E 1, 8, .inr (.inl (fun _ => 0)))), (q 7, .inr (2, [.ref (q 8), .ref (q 9), .int 0, .int 0, .int 0, .int 0, .int 0])), (q 8, .inl (E 0, 16, .inl (fun _ => 0))), (q 9, .inl (E 2, 16, .inl (fun _ => 0)))]
abbrev Qs : Type := Nat × Nat × Nat × List (Nat × Nat)
def benchW (E : Nat → ClassId) (q : Nat → Nat) (qs : List Qs) : va_W := baseW E q (refsOf qs) ++ qs.flatMap (Wq E)
def pmB (k : Nat) : Nat := ([0, 1, 2, 3, 4, 5, 6, 7, 8, 9, 10, 21, 32, 43, 54, 65, 76, 87, 11, 22, 33, 44, 55, 66, 77, 88, 12, 23, 34, 45, 56, 67, 78, 89, 13, 15, 17, 19, 24, 26, 28, 30, 35, 37, 39, 41, 46, 48, 50, 52, 57, 59, 61, 63, 68, 70, 72, 74, 79, 81, 83, 85, 90, 92, 94, 96, 14, 16, 18, 20, 25, 27, 29, 31, 36, 38, 40, 42, 47, 49, 51, 53, 58, 60, 62, 64, 69, 71, 73, 75, 80, 82, 84, 86, 91, 93, 95, 97] : List Nat).getD k 0
theorem pmB_inj : ∀ i, i < 98 → ∀ j, j < 98 → pmB i = pmB j → i = j := by decide +kernel
theorem rng98 : List.range 98 = [0, 1, 2, 3, 4, 5, 6, 7, 8, 9, 10, 11, 12, 13, 14, 15, 16, 17, 18, 19, 20, 21, 22, 23, 24, 25, 26, 27, 28, 29, 30, 31, 32, 33, 34, 35, 36, 37, 38, 39, 40, 41, 42, 43, 44, 45, 46, 47, 48, 49, 50, 51, 52, 53, 54, 55, 56, 57, 58, 59, 60, 61, 62, 63, 64, 65, 66, 67, 68, 69, 70, 71, 72, 73, 74, 75, 76, 77, 78, 79, 80, 81, 82, 83, 84, 85, 86, 87, 88, 89, 90, 91, 92, 93, 94, 95, 96, 97] := by decide +kernel
set_option maxHeartbeats 8000000 in
set_option maxRecDepth 100000 in
theorem bench_cells {D : va_G} {E : Nat → ClassId} {A : Nat → Prop} {H : Heap} {q : Nat → Nat} {qs : List Qs} (h8 : qs.length = 8) (hl4 : ∀ x ∈ qs, x.2.2.2.length = 4) (hP : va_P D vwCl (benchW E q qs) H) (hD : va_D A (benchW E q qs)) : ∃ ad : Nat → Nat, ad 0 = q 0 ∧ va_P D vwCl (wsB true (D, E, ad) M0K) H ∧ va_D A (wsB true (D, E, ad) M0K) := by
  obtain ⟨x0, x1, x2, x3, x4, x5, x6, x7, rfl⟩ := len8 h8
  obtain ⟨h0, g0, r0, l0⟩ := x0
  obtain ⟨h1, g1, r1, l1⟩ := x1
  obtain ⟨h2, g2, r2, l2⟩ := x2
  obtain ⟨h3, g3, r3, l3⟩ := x3
  obtain ⟨h4, g4, r4, l4⟩ := x4
  obtain ⟨h5, g5, r5, l5⟩ := x5
  obtain ⟨h6, g6, r6, l6⟩ := x6
  obtain ⟨h7, g7, r7, l7⟩ := x7
  obtain ⟨a00, a01, a02, a03, rfl⟩ := len4 (hl4 (h0, g0, r0, l0) (by simp))
  obtain ⟨a10, a11, a12, a13, rfl⟩ := len4 (hl4 (h1, g1, r1, l1) (by simp))
  obtain ⟨a20, a21, a22, a23, rfl⟩ := len4 (hl4 (h2, g2, r2, l2) (by simp))
  obtain ⟨a30, a31, a32, a33, rfl⟩ := len4 (hl4 (h3, g3, r3, l3) (by simp))
  obtain ⟨a40, a41, a42, a43, rfl⟩ := len4 (hl4 (h4, g4, r4, l4) (by simp))
  obtain ⟨a50, a51, a52, a53, rfl⟩ := len4 (hl4 (h5, g5, r5, l5) (by simp))
  obtain ⟨a60, a61, a62, a63, rfl⟩ := len4 (hl4 (h6, g6, r6, l6) (by simp))
  obtain ⟨a70, a71, a72, a73, rfl⟩ := len4 (hl4 (h7, g7, r7, l7) (by simp))
  obtain ⟨ad, had⟩ : ∃ ad : Nat → Nat, ad = fun k => ([q 0, q 1, q 2, q 3, q 4, q 5, q 6, q 7, q 8, q 9, h0, h1, h2, h3, h4, h5, h6, h7, g0, g1, g2, g3, g4, g5, g6, g7, r0, r1, r2, r3, r4, r5, r6, r7, a00.1, a01.1, a02.1, a03.1, a10.1, a11.1, a12.1, a13.1, a20.1, a21.1, a22.1, a23.1, a30.1, a31.1, a32.1, a33.1, a40.1, a41.1, a42.1, a43.1, a50.1, a51.1, a52.1, a53.1, a60.1, a61.1, a62.1, a63.1, a70.1, a71.1, a72.1, a73.1, a00.2, a01.2, a02.2, a03.2, a10.2, a11.2, a12.2, a13.2, a20.2, a21.2, a22.2, a23.2, a30.2, a31.2, a32.2, a33.2, a40.2, a41.2, a42.2, a43.2, a50.2, a51.2, a52.2, a53.2, a60.2, a61.2, a62.2, a63.2, a70.2, a71.2, a72.2, a73.2] : List Nat).getD k 0 := ⟨_, rfl⟩
  have c8 : ∀ j, j < 8 → refsOf [((h0, g0, r0, [a00, a01, a02, a03]) : Qs), ((h1, g1, r1, [a10, a11, a12, a13]) : Qs), ((h2, g2, r2, [a20, a21, a22, a23]) : Qs), ((h3, g3, r3, [a30, a31, a32, a33]) : Qs), ((h4, g4, r4, [a40, a41, a42, a43]) : Qs), ((h5, g5, r5, [a50, a51, a52, a53]) : Qs), ((h6, g6, r6, [a60, a61, a62, a63]) : Qs), ((h7, g7, r7, [a70, a71, a72, a73]) : Qs)] j = some (ad (10 + j)) := by
    intro j hj
    subst had
    match j, hj with
    | 0, _ => rfl
    | 1, _ => rfl
    | 2, _ => rfl
    | 3, _ => rfl
    | 4, _ => rfl
    | 5, _ => rfl
    | 6, _ => rfl
    | 7, _ => rfl
  have e0 : ∀ i, i < 4 → refsOf [a00, a01, a02, a03] i = some (ad (34 + 4 * (26 - 26) + i)) := by
    intro i hi
    subst had
    match i, hi with
    | 0, _ => rfl
    | 1, _ => rfl
    | 2, _ => rfl
    | 3, _ => rfl
  have e1 : ∀ i, i < 4 → refsOf [a10, a11, a12, a13] i = some (ad (34 + 4 * (27 - 26) + i)) := by
    intro i hi
    subst had
    match i, hi with
    | 0, _ => rfl
    | 1, _ => rfl
    | 2, _ => rfl
    | 3, _ => rfl
  have e2 : ∀ i, i < 4 → refsOf [a20, a21, a22, a23] i = some (ad (34 + 4 * (28 - 26) + i)) := by
    intro i hi
    subst had
    match i, hi with
    | 0, _ => rfl
    | 1, _ => rfl
    | 2, _ => rfl
    | 3, _ => rfl
  have e3 : ∀ i, i < 4 → refsOf [a30, a31, a32, a33] i = some (ad (34 + 4 * (29 - 26) + i)) := by
    intro i hi
    subst had
    match i, hi with
    | 0, _ => rfl
    | 1, _ => rfl
    | 2, _ => rfl
    | 3, _ => rfl
  have e4 : ∀ i, i < 4 → refsOf [a40, a41, a42, a43] i = some (ad (34 + 4 * (30 - 26) + i)) := by
    intro i hi
    subst had
    match i, hi with
    | 0, _ => rfl
    | 1, _ => rfl
    | 2, _ => rfl
    | 3, _ => rfl
  have e5 : ∀ i, i < 4 → refsOf [a50, a51, a52, a53] i = some (ad (34 + 4 * (31 - 26) + i)) := by
    intro i hi
    subst had
    match i, hi with
    | 0, _ => rfl
    | 1, _ => rfl
    | 2, _ => rfl
    | 3, _ => rfl
  have e6 : ∀ i, i < 4 → refsOf [a60, a61, a62, a63] i = some (ad (34 + 4 * (32 - 26) + i)) := by
    intro i hi
    subst had
    match i, hi with
    | 0, _ => rfl
    | 1, _ => rfl
    | 2, _ => rfl
    | 3, _ => rfl
  have e7 : ∀ i, i < 4 → refsOf [a70, a71, a72, a73] i = some (ad (34 + 4 * (33 - 26) + i)) := by
    intro i hi
    subst had
    match i, hi with
    | 0, _ => rfl
    | 1, _ => rfl
    | 2, _ => rfl
    | 3, _ => rfl
  have key : ∀ k ∈ List.range 98, ∃ e : va_E, (benchW E q [((h0, g0, r0, [a00, a01, a02, a03]) : Qs), ((h1, g1, r1, [a10, a11, a12, a13]) : Qs), ((h2, g2, r2, [a20, a21, a22, a23]) : Qs), ((h3, g3, r3, [a30, a31, a32, a33]) : Qs), ((h4, g4, r4, [a40, a41, a42, a43]) : Qs), ((h5, g5, r5, [a50, a51, a52, a53]) : Qs), ((h6, g6, r6, [a60, a61, a62, a63]) : Qs), ((h7, g7, r7, [a70, a71, a72, a73]) : Qs)])[pmB k]? = some (ad k, e) ∧ (va_at D vwCl (ad k, e) H → va_at D vwCl (ad k, celK E ad k (M0K.1 k) (M0K.2 k)) H) := by
    subst had
    rw [rng98]
    refine List.forall_mem_cons.mpr ⟨⟨_, rfl, fun z => z⟩, ?_⟩
    refine List.forall_mem_cons.mpr ⟨⟨_, rfl, fun z => (show _ = _ from z).trans (congrArg some (cell_refs _ c8))⟩, ?_⟩
    refine List.forall_mem_cons.mpr ⟨⟨_, rfl, fun z => z⟩, ?_⟩
    refine List.forall_mem_cons.mpr ⟨⟨_, rfl, fun z => z⟩, ?_⟩
    refine List.forall_mem_cons.mpr ⟨⟨_, rfl, fun z => z⟩, ?_⟩
    refine List.forall_mem_cons.mpr ⟨⟨_, rfl, fun z => z⟩, ?_⟩
    refine List.forall_mem_cons.mpr ⟨⟨_, rfl, fun z => z⟩, ?_⟩
    refine List.forall_mem_cons.mpr ⟨⟨_, rfl, fun z => z⟩, ?_⟩
    refine List.forall_mem_cons.mpr ⟨⟨_, rfl, fun z => z⟩, ?_⟩
    refine List.forall_mem_cons.mpr ⟨⟨_, rfl, fun z => z⟩, ?_⟩
    refine List.forall_mem_cons.mpr ⟨⟨_, rfl, fun z => z⟩, ?_⟩
    refine List.forall_mem_cons.mpr ⟨⟨_, rfl, fun z => z⟩, ?_⟩
    refine List.forall_mem_cons.mpr ⟨⟨_, rfl, fun z => z⟩, ?_⟩
    refine List.forall_mem_cons.mpr ⟨⟨_, rfl, fun z => z⟩, ?_⟩
    refine List.forall_mem_cons.mpr ⟨⟨_, rfl, fun z => z⟩, ?_⟩
    refine List.forall_mem_cons.mpr ⟨⟨_, rfl, fun z => z⟩, ?_⟩
    refine List.forall_mem_cons.mpr ⟨⟨_, rfl, fun z => z⟩, ?_⟩
    refine List.forall_mem_cons.mpr ⟨⟨_, rfl, fun z => z⟩, ?_⟩
    refine List.forall_mem_cons.mpr ⟨⟨_, rfl, fun z => z⟩, ?_⟩
    refine List.forall_mem_cons.mpr ⟨⟨_, rfl, fun z => z⟩, ?_⟩
    refine List.forall_mem_cons.mpr ⟨⟨_, rfl, fun z => z⟩, ?_⟩
    refine List.forall_mem_cons.mpr ⟨⟨_, rfl, fun z => z⟩, ?_⟩
    refine List.forall_mem_cons.mpr ⟨⟨_, rfl, fun z => z⟩, ?_⟩
    refine List.forall_mem_cons.mpr ⟨⟨_, rfl, fun z => z⟩, ?_⟩
    refine List.forall_mem_cons.mpr ⟨⟨_, rfl, fun z => z⟩, ?_⟩
    refine List.forall_mem_cons.mpr ⟨⟨_, rfl, fun z => z⟩, ?_⟩
    refine List.forall_mem_cons.mpr ⟨⟨_, rfl, fun z => (show _ = _ from z).trans (congrArg some (cell_refs _ e0))⟩, ?_⟩
    refine List.forall_mem_cons.mpr ⟨⟨_, rfl, fun z => (show _ = _ from z).trans (congrArg some (cell_refs _ e1))⟩, ?_⟩
    refine List.forall_mem_cons.mpr ⟨⟨_, rfl, fun z => (show _ = _ from z).trans (congrArg some (cell_refs _ e2))⟩, ?_⟩
    refine List.forall_mem_cons.mpr ⟨⟨_, rfl, fun z => (show _ = _ from z).trans (congrArg some (cell_refs _ e3))⟩, ?_⟩
    refine List.forall_mem_cons.mpr ⟨⟨_, rfl, fun z => (show _ = _ from z).trans (congrArg some (cell_refs _ e4))⟩, ?_⟩
    refine List.forall_mem_cons.mpr ⟨⟨_, rfl, fun z => (show _ = _ from z).trans (congrArg some (cell_refs _ e5))⟩, ?_⟩
    refine List.forall_mem_cons.mpr ⟨⟨_, rfl, fun z => (show _ = _ from z).trans (congrArg some (cell_refs _ e6))⟩, ?_⟩
    refine List.forall_mem_cons.mpr ⟨⟨_, rfl, fun z => (show _ = _ from z).trans (congrArg some (cell_refs _ e7))⟩, ?_⟩
    refine List.forall_mem_cons.mpr ⟨⟨_, rfl, fun z => z⟩, ?_⟩
    refine List.forall_mem_cons.mpr ⟨⟨_, rfl, fun z => z⟩, ?_⟩
    refine List.forall_mem_cons.mpr ⟨⟨_, rfl, fun z => z⟩, ?_⟩
    refine List.forall_mem_cons.mpr ⟨⟨_, rfl, fun z => z⟩, ?_⟩
    refine List.forall_mem_cons.mpr ⟨⟨_, rfl, fun z => z⟩, ?_⟩
    refine List.forall_mem_cons.mpr ⟨⟨_, rfl, fun z => z⟩, ?_⟩
    refine List.forall_mem_cons.mpr ⟨⟨_, rfl, fun z => z⟩, ?_⟩
    refine List.forall_mem_cons.mpr ⟨⟨_, rfl, fun z => z⟩, ?_⟩
    refine List.forall_mem_cons.mpr ⟨⟨_, rfl, fun z => z⟩, ?_⟩
    refine List.forall_mem_cons.mpr ⟨⟨_, rfl, fun z => z⟩, ?_⟩
    refine List.forall_mem_cons.mpr ⟨⟨_, rfl, fun z => z⟩, ?_⟩
    refine List.forall_mem_cons.mpr ⟨⟨_, rfl, fun z => z⟩, ?_⟩
    refine List.forall_mem_cons.mpr ⟨⟨_, rfl, fun z => z⟩, ?_⟩
    refine List.forall_mem_cons.mpr ⟨⟨_, rfl, fun z => z⟩, ?_⟩
    refine List.forall_mem_cons.mpr ⟨⟨_, rfl, fun z => z⟩, ?_⟩
    refine List.forall_mem_cons.mpr ⟨⟨_, rfl, fun z => z⟩, ?_⟩
    refine List.forall_mem_cons.mpr ⟨⟨_, rfl, fun z => z⟩, ?_⟩
    refine List.forall_mem_cons.mpr ⟨⟨_, rfl, fun z => z⟩, ?_⟩
    refine List.forall_mem_cons.mpr ⟨⟨_, rfl, fun z => z⟩, ?_⟩
    refine List.forall_mem_cons.mpr ⟨⟨_, rfl, fun z => z⟩, ?_⟩
    refine List.forall_mem_cons.mpr ⟨⟨_, rfl, fun z => z⟩, ?_⟩
    refine List.forall_mem_cons.mpr ⟨⟨_, rfl, fun z => z⟩, ?_⟩
    refine List.forall_mem_cons.mpr ⟨⟨_, rfl, fun z => z⟩, ?_⟩
    refine List.forall_mem_cons.mpr ⟨⟨_, rfl, fun z => z⟩, ?_⟩
    refine List.forall_mem_cons.mpr ⟨⟨_, rfl, fun z => z⟩, ?_⟩
    refine List.forall_mem_cons.mpr ⟨⟨_, rfl, fun z => z⟩, ?_⟩
    refine List.forall_mem_cons.mpr ⟨⟨_, rfl, fun z => z⟩, ?_⟩
    refine List.forall_mem_cons.mpr ⟨⟨_, rfl, fun z => z⟩, ?_⟩
    refine List.forall_mem_cons.mpr ⟨⟨_, rfl, fun z => z⟩, ?_⟩
    refine List.forall_mem_cons.mpr ⟨⟨_, rfl, fun z => z⟩, ?_⟩
    refine List.forall_mem_cons.mpr ⟨⟨_, rfl, fun z => z⟩, ?_⟩
    refine List.forall_mem_cons.mpr ⟨⟨_, rfl, fun z => z⟩, ?_⟩
    refine List.forall_mem_cons.mpr ⟨⟨_, rfl, fun z => z⟩, ?_⟩
    refine List.forall_mem_cons.mpr ⟨⟨_, rfl, fun z => z⟩, ?_⟩
    refine List.forall_mem_cons.mpr ⟨⟨_, rfl, fun z => z⟩, ?_⟩
    refine List.forall_mem_cons.mpr ⟨⟨_, rfl, fun z => z⟩, ?_⟩
    refine List.forall_mem_cons.mpr ⟨⟨_, rfl, fun z => z⟩, ?_⟩
    refine List.forall_mem_cons.mpr ⟨⟨_, rfl, fun z => z⟩, ?_⟩
    refine List.forall_mem_cons.mpr ⟨⟨_, rfl, fun z => z⟩, ?_⟩
    refine List.forall_mem_cons.mpr ⟨⟨_, rfl, fun z => z⟩, ?_⟩
    refine List.forall_mem_cons.mpr ⟨⟨_, rfl, fun z => z⟩, ?_⟩
    refine List.forall_mem_cons.mpr ⟨⟨_, rfl, fun z => z⟩, ?_⟩
    refine List.forall_mem_cons.mpr ⟨⟨_, rfl, fun z => z⟩, ?_⟩
    refine List.forall_mem_cons.mpr ⟨⟨_, rfl, fun z => z⟩, ?_⟩
    refine List.forall_mem_cons.mpr ⟨⟨_, rfl, fun z => z⟩, ?_⟩
    refine List.forall_mem_cons.mpr ⟨⟨_, rfl, fun z => z⟩, ?_⟩
    refine List.forall_mem_cons.mpr ⟨⟨_, rfl, fun z => z⟩, ?_⟩
    refine List.forall_mem_cons.mpr ⟨⟨_, rfl, fun z => z⟩, ?_⟩
    refine List.forall_mem_cons.mpr ⟨⟨_, rfl, fun z => z⟩, ?_⟩
    refine List.forall_mem_cons.mpr ⟨⟨_, rfl, fun z => z⟩, ?_⟩
    refine List.forall_mem_cons.mpr ⟨⟨_, rfl, fun z => z⟩, ?_⟩
    refine List.forall_mem_cons.mpr ⟨⟨_, rfl, fun z => z⟩, ?_⟩
    refine List.forall_mem_cons.mpr ⟨⟨_, rfl, fun z => z⟩, ?_⟩
    refine List.forall_mem_cons.mpr ⟨⟨_, rfl, fun z => z⟩, ?_⟩
    refine List.forall_mem_cons.mpr ⟨⟨_, rfl, fun z => z⟩, ?_⟩
    refine List.forall_mem_cons.mpr ⟨⟨_, rfl, fun z => z⟩, ?_⟩
    refine List.forall_mem_cons.mpr ⟨⟨_, rfl, fun z => z⟩, ?_⟩
    refine List.forall_mem_cons.mpr ⟨⟨_, rfl, fun z => z⟩, ?_⟩
    refine List.forall_mem_cons.mpr ⟨⟨_, rfl, fun z => z⟩, ?_⟩
    refine List.forall_mem_cons.mpr ⟨⟨_, rfl, fun z => z⟩, ?_⟩
    refine List.forall_mem_cons.mpr ⟨⟨_, rfl, fun z => z⟩, ?_⟩
    refine List.forall_mem_cons.mpr ⟨⟨_, rfl, fun z => z⟩, ?_⟩
    refine List.forall_mem_cons.mpr ⟨⟨_, rfl, fun z => z⟩, ?_⟩
    refine List.forall_mem_cons.mpr ⟨⟨_, rfl, fun z => z⟩, ?_⟩
    exact fun _ h => absurd h List.not_mem_nil
  have key2 : ∀ (k : Nat) (y : Nat × va_E), (wsB true (D, E, ad) M0K)[k]? = some y → k < 98 ∧ y = (ad k, celK E ad k (M0K.1 k) (M0K.2 k)) := by
    intro k y hy
    have hk : k < 98 := by
      have := (List.getElem?_eq_some_iff.mp hy).1
      simpa [wsB, nB] using this
    refine ⟨hk, ?_⟩
    rw [wsB_at (b := true) (i := k) hk] at hy
    exact (Option.some.inj hy).symm
  refine ⟨ad, by subst had; rfl, ?_, ?_, ?_⟩
  · intro k y hy
    obtain ⟨hk, rfl⟩ := key2 k y hy
    obtain ⟨e, he, hz⟩ := key k (List.mem_range.mpr hk)
    exact hz (hP _ _ he)
  · intro i j y z hy hz hyz
    obtain ⟨hi, rfl⟩ := key2 i y hy
    obtain ⟨hj, rfl⟩ := key2 j z hz
    obtain ⟨e, he, -⟩ := key i (List.mem_range.mpr hi)
    obtain ⟨e', he', -⟩ := key j (List.mem_range.mpr hj)
    exact pmB_inj i hi j hj (hD.1 _ _ _ _ he he' hyz)
  · intro k y hy
    obtain ⟨hk, rfl⟩ := key2 k y hy
    obtain ⟨e, he, -⟩ := key k (List.mem_range.mpr hk)
    exact hD.2 (pmB k) (ad k, e) he
