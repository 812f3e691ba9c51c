/-! 97c: from the law's entry -/
theorem start_nest {b : Nat} {s : State} (hts : ∀ w ∈ lw_tbl, w.before #[Value.ref b] s = true) : nestK s ∧ nest8 s :=
  ⟨⟨va_Nw.of rfl (hts (.methodLinkNest RX0 29 yX8_commonMultiple RX8) (List.mem_of_getElem? (i := 411) (by decide +kernel))), va_Nw.of rfl (hts (.methodLinkNest RX1 16 yX8_commonDivisor RX8) (List.mem_of_getElem? (i := 292) (by decide +kernel))), va_Nw.of rfl (hts (.methodLinkNest RX1 22 yX8_commonMultiple RX8) (List.mem_of_getElem? (i := 389) (by decide +kernel))), va_Nw.of rfl (hts (.fieldLinkNest RX4 56 RX8 "CLICK_CHANCES" "[I" RX8) (List.mem_of_getElem? (i := 524) (by decide +kernel)))⟩, va_Nw.of rfl (hts (.methodLinkNest RX8 17 yX1_init RX8) (List.mem_of_getElem? (i := 69) (by decide +kernel))), va_Nw.of rfl (hts (.methodLinkNest RX8 30 yX0_init RX8) (List.mem_of_getElem? (i := 82) (by decide +kernel))), va_Nw.of rfl (hts (.methodLinkNest RX8 37 yX4_init RX8) (List.mem_of_getElem? (i := 99) (by decide +kernel))), ⟨va_Nw.of rfl (hts (.methodLinkNest RX6 27 yX7_init RX8) (List.mem_of_getElem? (i := 138) (by decide +kernel))), va_AO.of (hts (.arrayOver (.object RX7)) (List.mem_of_getElem? (i := 133) (by decide +kernel)))⟩, va_AO.of (hts (.arrayOver (.object RX6)) (List.mem_of_getElem? (i := 66) (by decide +kernel)))⟩
theorem start_click {b : Nat} {s : State} (hts : ∀ w ∈ lw_tbl, w.before #[Value.ref b] s = true) (hgv : (Jvm.Cond.and given_1 narrow_1).before #[Value.ref b] s = true) : clickK (oldC s) s s.heap := click0 hgv (hts (.laysStatic RX8 "CLICK_CHANCES" "[I") (List.mem_of_getElem? (i := 525) (by decide +kernel))) (hts (.initialized RX8) (List.mem_of_getElem? (i := 43) (by decide +kernel)))
theorem start_K {b : Nat} {s : State} (hts : ∀ w ∈ lw_tbl, w.before #[Value.ref b] s = true) : ∃ (D : va_G) (E : Nat → ClassId), va_K D vwCl (tysE E) s := by
  obtain ⟨c0, j0, k0⟩ := u_known (C := RX0) (T := TX0) (N := 3) (n := 3) hts inL_X0 (hts (.instantiable RX0 3) (List.mem_of_getElem? (i := 81) (by decide +kernel)))
  obtain ⟨c1, j1, k1⟩ := u_known (C := RX1) (T := TX1) (N := 2) (n := 2) hts inL_X1 (hts (.instantiable RX1 2) (List.mem_of_getElem? (i := 68) (by decide +kernel)))
  obtain ⟨c2, j2, k2⟩ := u_known (C := RX4) (T := TX4) (N := 7) (n := 7) hts inL_X4 (hts (.instantiable RX4 7) (List.mem_of_getElem? (i := 98) (by decide +kernel)))
  obtain ⟨c3, j3, k3⟩ := u_known (C := RX6) (T := TX6) (N := 2) (n := 2) hts inL_X6 (hts (.instantiable RX6 2) (List.mem_of_getElem? (i := 127) (by decide +kernel)))
  obtain ⟨c4, j4, k4⟩ := u_known (C := RX7) (T := TX7) (N := 3) (n := 3) hts inL_X7 (hts (.instantiable RX7 3) (List.mem_of_getElem? (i := 137) (by decide +kernel)))
  obtain ⟨c5, j5, k5⟩ := u_known (C := RX8) (T := TX8) (N := 6) (n := 6) hts inL_X8 (hts (.instantiable RX8 6) (List.mem_of_getElem? (i := 58) (by decide +kernel)))
  obtain ⟨c6, j6, k6⟩ := u_known (C := RX9) (T := TX9) (N := 14) (n := 14) hts inL_X9 (hts (.instantiable RX9 14) (List.mem_of_getElem? (i := 539) (by decide +kernel)))
  obtain ⟨e0, a0, b0⟩ := arr_prim (ty := .int) (hts (.arrayClass .int) (List.mem_of_getElem? (i := 125) (by decide +kernel)))
  obtain ⟨e1, a1, b1⟩ := arr_prim (ty := .long) (hts (.arrayClass .long) (List.mem_of_getElem? (i := 96) (by decide +kernel)))
  obtain ⟨e2, a2, b2⟩ := arr_prim (ty := .boolean) (hts (.arrayClass .boolean) (List.mem_of_getElem? (i := 126) (by decide +kernel)))
  obtain ⟨e3, a3, b3⟩ := arr_obj (start_nest hts).2.2.2.2.1.2
  obtain ⟨e4, a4, b4⟩ := arr_obj (start_nest hts).2.2.2.2.2
  refine ⟨(fun k => [c0, c1, c2, c3, c4, c5, c6].getD k c0, fun k => [j0, j1, j2, j3, j4, j5, j6].getD k j0), fun k => [e0, e1, e2, e3, e4].getD k e0, ?_, ?_⟩
  · intro k q hq
    rcases (show k = 0 ∨ k = 1 ∨ k = 2 ∨ k = 3 ∨ k = 4 ∨ k = 5 ∨ k = 6 ∨ 7 ≤ k by omega) with z | z | z | z | z | z | z | z
    · subst z; cases hq; exact k0
    · subst z; cases hq; exact k1
    · subst z; cases hq; exact k2
    · subst z; cases hq; exact k3
    · subst z; cases hq; exact k4
    · subst z; cases hq; exact k5
    · subst z; cases hq; exact k6
    · rw [List.getElem?_eq_none (by show 7 ≤ k; exact z)] at hq; cases hq
  · intro k q hq
    rcases (show k = 0 ∨ k = 1 ∨ k = 2 ∨ k = 3 ∨ k = 4 ∨ 5 ≤ k by omega) with z | z | z | z | z | z
    · subst z; cases hq; exact ⟨a0, b0⟩
    · subst z; cases hq; exact ⟨a1, b1⟩
    · subst z; cases hq; exact ⟨a2, b2⟩
    · subst z; cases hq; exact ⟨a3, b3⟩
    · subst z; cases hq; exact ⟨a4, b4⟩
    · rw [List.getElem?_eq_none (by show 5 ≤ k; exact z)] at hq; cases hq
/-- two worlds side by side, apart -/
theorem two {s : State} {D : va_G} {E : Nat → ClassId} {d1 d2 : Nat → Nat} {H : Heap} (hP : va_P D vwCl (wsB true (D, E, d1) M0K ++ wsB false (D, E, d2) M0M) H) (hD : va_D (oldC s) (wsB true (D, E, d1) M0K ++ wsB false (D, E, d2) M0M)) : ∃ A1 A2 : Nat → Prop, (∀ q, A1 q → oldC s q) ∧ (∀ q, A2 q → oldC s q) ∧ (∀ q, A1 q → ¬ A2 q) ∧ W3 true (D, E, d1) A1 M0K H ∧ W3 false (D, E, d2) A2 M0M H := by
  generalize hw1 : wsB true (D, E, d1) M0K = w1 at *
  generalize hw2 : wsB false (D, E, d2) M0M = w2 at *
  have r1 : ∀ (k : Nat) (y : Nat × va_E), w1[k]? = some y → (w1 ++ w2)[k]? = some y := fun k y hy => by
    rw [List.getElem?_append_left (List.getElem?_eq_some_iff.mp hy).1]; exact hy
  have r2 : ∀ (k : Nat) (y : Nat × va_E), w2[k]? = some y → (w1 ++ w2)[w1.length + k]? = some y := fun k y hy => by
    rw [List.getElem?_append_right (by omega), show w1.length + k - w1.length = k by omega]; exact hy
  refine ⟨fun q => ∃ (k : Nat) (y : va_E), w1[k]? = some (q, y), fun q => ∃ (k : Nat) (y : va_E), w2[k]? = some (q, y), ?_, ?_, ?_, ⟨?_, ?_, ok0K⟩, ⟨?_, ?_, ok0M⟩⟩
  · rintro q ⟨k, y, hy⟩; exact hD.2 _ _ (r1 k _ hy)
  · rintro q ⟨k, y, hy⟩; exact hD.2 _ _ (r2 k _ hy)
  · rintro q ⟨k, y, hy⟩ ⟨k', y', hy'⟩
    have h1 := hD.1 _ _ _ _ (r1 k _ hy) (r2 k' _ hy') rfl
    have h2 := (List.getElem?_eq_some_iff.mp hy).1
    omega
  · rw [hw1]; exact fun k y hy => hP _ _ (r1 k y hy)
  · rw [hw1]; exact ⟨fun i j p q h1 h2 h3 => hD.1 _ _ _ _ (r1 i p h1) (r1 j q h2) h3, fun k q h => ⟨k, q.2, h⟩⟩
  · rw [hw2]; exact fun k y hy => hP _ _ (r2 k y hy)
  · rw [hw2]; exact ⟨fun i j p q h1 h2 h3 => by have := hD.1 _ _ _ _ (r2 i p h1) (r2 j q h2) h3; omega, fun k q h => ⟨k, q.2, h⟩⟩
set_option maxHeartbeats 4000000 in
set_option maxRecDepth 100000 in
/-- THE LAW, from its entry -/
theorem whole_start {p : Program} {e : Env} {s : State} {m : MethodId} {below : List Frame} {meth : Method} {c : Code} (l : Launch) {b L : Nat} {xs : Nat → Int32} (hL : L ≤ 3072) (C0 : lw_At p s m meth c b L xs) : W p l e room_1 s m #[Value.ref b] below meth c s.heap [] 0 0 (lw_Z below #[Value.ref b] s) (entryFrame m ([Value.ref b] : List Value).toArray 4) := by
  obtain ⟨hx, hb, hr, hml, hown, hts, hX, hbl, hlocks, hgv⟩ := id C0
  have X : CallFix p m c cL_law 4 s #[Value.ref b] wsL_law RL := ⟨hx, hb, hml, hown, fun w hw => hts w (inL w hw)⟩
  have hA : ∀ q, s.heap.size ≤ q → oldC s q := fun _ h => h
  obtain ⟨D, E, hK⟩ := start_K hts
  obtain ⟨hN, hN8⟩ := start_nest hts
  have hck := start_click hts hgv
  have hS : va_S (oldC s) s.heap s.heap [] := va_S.rf
  have hP : va_P D vwCl [] s.heap := fun k q h => by simp at h
  have hD : va_D (oldC s) [] := ⟨fun i j p q h => by simp at h, fun k q h => by simp at h⟩
  have hl := lv_entry ([.ref b]) (n := 4) (Nat.le_of_ble_eq_true rfl)
  rw [lg_entry_eq]
  generalize (lg_sl ([.ref b]) ++ List.replicate (4 - (lg_sl ([.ref b])).length) Slot.unset).toArray = ls at hl ⊢
  have hl : lv_has ls 4 [(0, .ref b)] := hl
  refine va_new (ci := 5) (fs := [.null, .null, .null, .null, .null, .null]) (C := RX8) (T := TX8) (N := 6) X.1 X.2.1 hts inL_X8 tyX8 tyX8_ok X.2.2.2.1 (hts (.classLink RL 7 RX8) (List.mem_of_getElem? (i := 57) (by decide +kernel))) (hts (.instantiable RX8 6) (List.mem_of_getElem? (i := 58) (by decide +kernel))) (hts (.initialized RX8) (List.mem_of_getElem? (i := 43) (by decide +kernel))) hK hP hD hS hA rfl (fun j hj => by rcases (show j = 0 ∨ j = 1 ∨ j = 2 ∨ j = 3 ∨ j = 4 ∨ j = 5 by omega) with rfl | rfl | rfl | rfl | rfl | rfl <;> rfl) (Nat.le_of_ble_eq_true rfl) (Nat.le_of_ble_eq_true rfl) dL_law_0 (fun q0 H hP hD hS => ?_)
  refine lv_dup X.1 X.2.1 dL_law_3 rfl ?_
  refine mk_call (wr := []) (w0 := [(q0, .inr (5, [.null, .null, .null, .null, .null, .null]))]) (va_runI (As := []) (rest := [.ref q0]) X (c_X8_init l D E q0 H.size) (cwI 0 X.2.2.2.2 gL_law_X8_init rfl rfl rfl (hts (.initialized RX8) (List.mem_of_getElem? (i := 43) (by decide +kernel))) (hts (.methodLink RL 9 yX8_init) (List.mem_of_getElem? (i := 59) (by decide +kernel))) (hts (.instanceMethod yX8_init) (List.mem_of_getElem? (i := 60) (by decide +kernel))) rfl (by decide +kernel) ⟨(Nat.le_of_ble_eq_true rfl), (Nat.le_of_ble_eq_true rfl)⟩) (mk_pre (wr := []) hP hD hK hN8 (fun _ _ _ _ z => z.calling) (fun _ hW => hN8.warm hW)) rfl rfl hl.1 rfl (lv_room (Nat.le_of_ble_eq_true rfl)) dL_law_4 ⟨(Nat.le_of_ble_eq_true rfl), (Nat.le_of_ble_eq_true rfl)⟩) hP hD hS hA (fun d1 H1 locs1 hd1 hP1 hD1 hS1 => ?_)
  have hd1 : d1 0 = q0 := hd1
  refine lv_astore_n (lv' := [(1, .ref q0), (0, .ref b)]) X.1 X.2.1 dL_law_7 rfl hl (by decide) rfl (fun ls hl => ?_)
  refine va_new (ci := 6) (fs := [.null, .null, .null, .null, .long 0, .long 0, .long 0, .long 0, .null, .null, .int 0, .null, .null, .int 0]) (C := RX9) (T := TX9) (N := 14) X.1 X.2.1 hts inL_X9 tyX9 tyX9_ok X.2.2.2.1 (hts (.classLink RL 10 RX9) (List.mem_of_getElem? (i := 538) (by decide +kernel))) (hts (.instantiable RX9 14) (List.mem_of_getElem? (i := 539) (by decide +kernel))) (hts (.initialized RX9) (List.mem_of_getElem? (i := 50) (by decide +kernel))) hK hP1 hD1 hS1 hA rfl (fun j hj => by rcases (show j = 0 ∨ j = 1 ∨ j = 2 ∨ j = 3 ∨ j = 4 ∨ j = 5 ∨ j = 6 ∨ j = 7 ∨ j = 8 ∨ j = 9 ∨ j = 10 ∨ j = 11 ∨ j = 12 ∨ j = 13 by omega) with rfl | rfl | rfl | rfl | rfl | rfl | rfl | rfl | rfl | rfl | rfl | rfl | rfl | rfl <;> rfl) (Nat.le_of_ble_eq_true rfl) (Nat.le_of_ble_eq_true rfl) dL_law_8 (fun q9 H2 hP2 hD2 hS2 => ?_)
  refine lv_dup X.1 X.2.1 dL_law_11 rfl ?_
  refine mk_call (wr := [] ++ wsB true (D, E, d1) M0K) (w0 := [(q9, .inr (6, [.null, .null, .null, .null, .long 0, .long 0, .long 0, .long 0, .null, .null, .int 0, .null, .null, .int 0]))]) (va_runI (As := []) (rest := [.ref q9]) X (c_X9_init l D E q9 H2.size) (cwI 0 X.2.2.2.2 gL_law_X9_init rfl rfl rfl (hts (.initialized RX9) (List.mem_of_getElem? (i := 50) (by decide +kernel))) (hts (.methodLink RL 12 yX9_init) (List.mem_of_getElem? (i := 540) (by decide +kernel))) (hts (.instanceMethod yX9_init) (List.mem_of_getElem? (i := 541) (by decide +kernel))) rfl (by decide +kernel) ⟨(Nat.le_of_ble_eq_true rfl), (Nat.le_of_ble_eq_true rfl)⟩) (mk_pre hP2 hD2 hK trivial (fun _ _ _ _ _ => trivial) (fun _ _ => trivial)) rfl rfl hl.1 rfl (lv_room (Nat.le_of_ble_eq_true rfl)) dL_law_12 ⟨(Nat.le_of_ble_eq_true rfl), (Nat.le_of_ble_eq_true rfl)⟩) hP2 hD2 hS2 hA (fun d2 H3 locs3 hd2 hP3 hD3 hS3 => ?_)
  have hd2 : d2 0 = q9 := hd2
  refine lv_astore_n (lv' := [(2, .ref q9), (1, .ref q0), (0, .ref b)]) X.1 X.2.1 dL_law_15 rfl hl (by decide) rfl (fun ls hl => ?_)
  refine lv_iconst (v := 0) X.1 X.2.1 dL_law_16 (by decide) ?_
  refine lv_istore_n (lv' := [(3, .int 0), (2, .ref q9), (1, .ref q0), (0, .ref b)]) X.1 X.2.1 dL_law_17 rfl hl (by decide) rfl (fun ls hl => ?_)
  refine W.widen (k := 600000) (n := 7302250) (Nat.le_of_ble_eq_true rfl) (Nat.le_of_ble_eq_true rfl) ?_
  have hP3 : va_P D vwCl (wsB true (D, E, d1) M0K ++ wsB false (D, E, d2) M0M) H3 := hP3
  have hD3 : va_D (oldC s) (wsB true (D, E, d1) M0K ++ wsB false (D, E, d2) M0M) := hD3
  obtain ⟨A1, A2, g1, g2, g3, g4, g5⟩ := two hP3 hD3
  have hl2 : lv_has ls 4 [(0, .ref b), (1, .ref q0), (2, .ref q9), (3, .int 0)] := lv_sub hl [3, 2, 1, 0] rfl
  rw [← hd1, ← hd2] at hl2
  exact law_loop l ⟨X, hK, ⟨hN, hck⟩, g1, g2, g3, hX, hbl, hL⟩ hr hlocks (L + 1) 0 M0K M0M H3 locs3 ls (by decide) (by decide) (by show (L : Int) < 0 + ((L + 1 : Nat) : Int); omega) hl2 g4 g5 rel0 hS3
